section
-- ===== PART A: goes FIRST, ahead of the names: the tables' words, and 'selects' of the private methods out of them =====
/-- a private method of a class that the tables say can be made, by its rows of tables_1 -/
def lw_okq (q : MethodName × Nat) : Prop := (q.1.cls ≠ "java/lang/invoke/MethodHandle" ∧ q.1.cls ≠ "java/lang/invoke/VarHandle") ∧ Cond.instantiable q.1.cls q.2 ∈ tables_1 ∧ Cond.privateMethod q.1 ∈ tables_1 ∧ Cond.instanceMethod q.1 ∈ tables_1
theorem lw_p0 : lw_okq (⟨"RulerWord$Tape", "put", "(I)V"⟩, 5) := ⟨⟨by decide +kernel, by decide +kernel⟩, List.mem_of_getElem? (i := 34) (by decide +kernel), List.mem_of_getElem? (i := 379) (by decide +kernel), List.mem_of_getElem? (i := 380) (by decide +kernel)⟩
theorem lw_p1 : lw_okq (⟨"RulerWord$Tape", "add", "(I)V"⟩, 5) := ⟨⟨by decide +kernel, by decide +kernel⟩, List.mem_of_getElem? (i := 34) (by decide +kernel), List.mem_of_getElem? (i := 383) (by decide +kernel), List.mem_of_getElem? (i := 384) (by decide +kernel)⟩
theorem lw_p2 : lw_okq (⟨"RulerWord$Council", "readFrom", "(LRulerWord$Tape;)I"⟩, 8) := ⟨⟨by decide +kernel, by decide +kernel⟩, List.mem_of_getElem? (i := 63) (by decide +kernel), List.mem_of_getElem? (i := 395) (by decide +kernel), List.mem_of_getElem? (i := 396) (by decide +kernel)⟩
theorem lw_p3 : lw_okq (⟨"RulerWord$Council", "clear", "()V"⟩, 8) := ⟨⟨by decide +kernel, by decide +kernel⟩, List.mem_of_getElem? (i := 63) (by decide +kernel), List.mem_of_getElem? (i := 399) (by decide +kernel), List.mem_of_getElem? (i := 400) (by decide +kernel)⟩
theorem lw_p4 : lw_okq (⟨"RulerWord$Tape", "firstPart", "()V"⟩, 5) := ⟨⟨by decide +kernel, by decide +kernel⟩, List.mem_of_getElem? (i := 34) (by decide +kernel), List.mem_of_getElem? (i := 403) (by decide +kernel), List.mem_of_getElem? (i := 404) (by decide +kernel)⟩
theorem lw_p5 : lw_okq (⟨"RulerWord$Tape", "nextPart", "()V"⟩, 5) := ⟨⟨by decide +kernel, by decide +kernel⟩, List.mem_of_getElem? (i := 34) (by decide +kernel), List.mem_of_getElem? (i := 407) (by decide +kernel), List.mem_of_getElem? (i := 408) (by decide +kernel)⟩
theorem lw_p6 : lw_okq (⟨"RulerWord$Tape", "isWord", "(Ljava/lang/String;)Z"⟩, 5) := ⟨⟨by decide +kernel, by decide +kernel⟩, List.mem_of_getElem? (i := 34) (by decide +kernel), List.mem_of_getElem? (i := 415) (by decide +kernel), List.mem_of_getElem? (i := 416) (by decide +kernel)⟩
theorem lw_p7 : lw_okq (⟨"RulerWord$Council", "readPiece", "(LRulerWord$Tape;)Z"⟩, 8) := ⟨⟨by decide +kernel, by decide +kernel⟩, List.mem_of_getElem? (i := 63) (by decide +kernel), List.mem_of_getElem? (i := 469) (by decide +kernel), List.mem_of_getElem? (i := 470) (by decide +kernel)⟩
theorem lw_p8 : lw_okq (⟨"RulerWord$Council", "isTold", "(I)Z"⟩, 8) := ⟨⟨by decide +kernel, by decide +kernel⟩, List.mem_of_getElem? (i := 63) (by decide +kernel), List.mem_of_getElem? (i := 485) (by decide +kernel), List.mem_of_getElem? (i := 486) (by decide +kernel)⟩
theorem lw_p9 : lw_okq (⟨"RulerWord$Tape", "number", "(II)I"⟩, 5) := ⟨⟨by decide +kernel, by decide +kernel⟩, List.mem_of_getElem? (i := 34) (by decide +kernel), List.mem_of_getElem? (i := 492) (by decide +kernel), List.mem_of_getElem? (i := 493) (by decide +kernel)⟩
theorem lw_p10 : lw_okq (⟨"RulerWord$Tape", "digits", "()I"⟩, 5) := ⟨⟨by decide +kernel, by decide +kernel⟩, List.mem_of_getElem? (i := 34) (by decide +kernel), List.mem_of_getElem? (i := 496) (by decide +kernel), List.mem_of_getElem? (i := 497) (by decide +kernel)⟩
theorem lw_p11 : lw_okq (⟨"RulerWord$Tape", "digitAt", "(I)I"⟩, 5) := ⟨⟨by decide +kernel, by decide +kernel⟩, List.mem_of_getElem? (i := 34) (by decide +kernel), List.mem_of_getElem? (i := 500) (by decide +kernel), List.mem_of_getElem? (i := 501) (by decide +kernel)⟩
theorem lw_p12 : lw_okq (⟨"RulerWord$Council", "readStarts", "(LRulerWord$Tape;)Z"⟩, 8) := ⟨⟨by decide +kernel, by decide +kernel⟩, List.mem_of_getElem? (i := 63) (by decide +kernel), List.mem_of_getElem? (i := 504) (by decide +kernel), List.mem_of_getElem? (i := 505) (by decide +kernel)⟩
theorem lw_p13 : lw_okq (⟨"RulerWord$Council", "readFalses", "(LRulerWord$Tape;)Z"⟩, 8) := ⟨⟨by decide +kernel, by decide +kernel⟩, List.mem_of_getElem? (i := 63) (by decide +kernel), List.mem_of_getElem? (i := 510) (by decide +kernel), List.mem_of_getElem? (i := 511) (by decide +kernel)⟩
theorem lw_p14 : lw_okq (⟨"RulerWord$Council", "fillIn", "()V"⟩, 8) := ⟨⟨by decide +kernel, by decide +kernel⟩, List.mem_of_getElem? (i := 63) (by decide +kernel), List.mem_of_getElem? (i := 514) (by decide +kernel), List.mem_of_getElem? (i := 515) (by decide +kernel)⟩
theorem lw_p15 : lw_okq (⟨"RulerWord$Plan", "readFrom", "(LRulerWord$Tape;)I"⟩, 2) := ⟨⟨by decide +kernel, by decide +kernel⟩, List.mem_of_getElem? (i := 108) (by decide +kernel), List.mem_of_getElem? (i := 521) (by decide +kernel), List.mem_of_getElem? (i := 522) (by decide +kernel)⟩
def lw_privs_1 : List (MethodName × Nat) := [(⟨"RulerWord$Tape", "put", "(I)V"⟩, 5), (⟨"RulerWord$Tape", "add", "(I)V"⟩, 5), (⟨"RulerWord$Council", "readFrom", "(LRulerWord$Tape;)I"⟩, 8), (⟨"RulerWord$Council", "clear", "()V"⟩, 8), (⟨"RulerWord$Tape", "firstPart", "()V"⟩, 5), (⟨"RulerWord$Tape", "nextPart", "()V"⟩, 5), (⟨"RulerWord$Tape", "isWord", "(Ljava/lang/String;)Z"⟩, 5), (⟨"RulerWord$Council", "readPiece", "(LRulerWord$Tape;)Z"⟩, 8), (⟨"RulerWord$Council", "isTold", "(I)Z"⟩, 8), (⟨"RulerWord$Tape", "number", "(II)I"⟩, 5), (⟨"RulerWord$Tape", "digits", "()I"⟩, 5), (⟨"RulerWord$Tape", "digitAt", "(I)I"⟩, 5), (⟨"RulerWord$Council", "readStarts", "(LRulerWord$Tape;)Z"⟩, 8), (⟨"RulerWord$Council", "readFalses", "(LRulerWord$Tape;)Z"⟩, 8), (⟨"RulerWord$Council", "fillIn", "()V"⟩, 8), (⟨"RulerWord$Plan", "readFrom", "(LRulerWord$Tape;)I"⟩, 2)]
theorem lw_r1 : ∀ q ∈ lw_privs_1, lw_okq q := List.forall_mem_cons.mpr ⟨lw_p0, List.forall_mem_cons.mpr ⟨lw_p1, List.forall_mem_cons.mpr ⟨lw_p2, List.forall_mem_cons.mpr ⟨lw_p3, List.forall_mem_cons.mpr ⟨lw_p4, List.forall_mem_cons.mpr ⟨lw_p5, List.forall_mem_cons.mpr ⟨lw_p6, List.forall_mem_cons.mpr ⟨lw_p7, List.forall_mem_cons.mpr ⟨lw_p8, List.forall_mem_cons.mpr ⟨lw_p9, List.forall_mem_cons.mpr ⟨lw_p10, List.forall_mem_cons.mpr ⟨lw_p11, List.forall_mem_cons.mpr ⟨lw_p12, List.forall_mem_cons.mpr ⟨lw_p13, List.forall_mem_cons.mpr ⟨lw_p14, List.forall_mem_cons.mpr ⟨lw_p15, fun _ h => absurd h List.not_mem_nil⟩⟩⟩⟩⟩⟩⟩⟩⟩⟩⟩⟩⟩⟩⟩⟩
theorem lw_p16 : lw_okq (⟨"RulerWord$Plan", "readLine", "(LRulerWord$Tape;I)Z"⟩, 2) := ⟨⟨by decide +kernel, by decide +kernel⟩, List.mem_of_getElem? (i := 108) (by decide +kernel), List.mem_of_getElem? (i := 526) (by decide +kernel), List.mem_of_getElem? (i := 527) (by decide +kernel)⟩
theorem lw_p17 : lw_okq (⟨"RulerWord$Council", "copy", "(LRulerWord$Council;)V"⟩, 8) := ⟨⟨by decide +kernel, by decide +kernel⟩, List.mem_of_getElem? (i := 63) (by decide +kernel), List.mem_of_getElem? (i := 555) (by decide +kernel), List.mem_of_getElem? (i := 556) (by decide +kernel)⟩
theorem lw_p18 : lw_okq (⟨"RulerWord$Course", "begin", "(IIJ)V"⟩, 18) := ⟨⟨by decide +kernel, by decide +kernel⟩, List.mem_of_getElem? (i := 174) (by decide +kernel), List.mem_of_getElem? (i := 559) (by decide +kernel), List.mem_of_getElem? (i := 560) (by decide +kernel)⟩
theorem lw_p19 : lw_okq (⟨"RulerWord$Plan", "copy", "(LRulerWord$Plan;)V"⟩, 2) := ⟨⟨by decide +kernel, by decide +kernel⟩, List.mem_of_getElem? (i := 108) (by decide +kernel), List.mem_of_getElem? (i := 567) (by decide +kernel), List.mem_of_getElem? (i := 568) (by decide +kernel)⟩
theorem lw_p20 : lw_okq (⟨"RulerWord$Council", "phaseAt", "(I)I"⟩, 8) := ⟨⟨by decide +kernel, by decide +kernel⟩, List.mem_of_getElem? (i := 63) (by decide +kernel), List.mem_of_getElem? (i := 579) (by decide +kernel), List.mem_of_getElem? (i := 580) (by decide +kernel)⟩
theorem lw_p21 : lw_okq (⟨"RulerWord$Council", "rounds", "()I"⟩, 8) := ⟨⟨by decide +kernel, by decide +kernel⟩, List.mem_of_getElem? (i := 63) (by decide +kernel), List.mem_of_getElem? (i := 583) (by decide +kernel), List.mem_of_getElem? (i := 584) (by decide +kernel)⟩
theorem lw_p22 : lw_okq (⟨"RulerWord$Council", "turnAt", "(I)I"⟩, 8) := ⟨⟨by decide +kernel, by decide +kernel⟩, List.mem_of_getElem? (i := 63) (by decide +kernel), List.mem_of_getElem? (i := 587) (by decide +kernel), List.mem_of_getElem? (i := 588) (by decide +kernel)⟩
theorem lw_p23 : lw_okq (⟨"RulerWord", "roundsLeft", "()I"⟩, 18) := ⟨⟨by decide +kernel, by decide +kernel⟩, List.mem_of_getElem? (i := 26) (by decide +kernel), List.mem_of_getElem? (i := 596) (by decide +kernel), List.mem_of_getElem? (i := 597) (by decide +kernel)⟩
theorem lw_p24 : lw_okq (⟨"RulerWord$Council", "allRounds", "()I"⟩, 8) := ⟨⟨by decide +kernel, by decide +kernel⟩, List.mem_of_getElem? (i := 63) (by decide +kernel), List.mem_of_getElem? (i := 600) (by decide +kernel), List.mem_of_getElem? (i := 601) (by decide +kernel)⟩
theorem lw_p25 : lw_okq (⟨"RulerWord$Acts", "keep", "(LRulerWord$Course;)V"⟩, 3) := ⟨⟨by decide +kernel, by decide +kernel⟩, List.mem_of_getElem? (i := 249) (by decide +kernel), List.mem_of_getElem? (i := 604) (by decide +kernel), List.mem_of_getElem? (i := 605) (by decide +kernel)⟩
theorem lw_p26 : lw_okq (⟨"RulerWord$Course", "copy", "(LRulerWord$Course;)V"⟩, 18) := ⟨⟨by decide +kernel, by decide +kernel⟩, List.mem_of_getElem? (i := 174) (by decide +kernel), List.mem_of_getElem? (i := 608) (by decide +kernel), List.mem_of_getElem? (i := 609) (by decide +kernel)⟩
theorem lw_p27 : lw_okq (⟨"RulerWord$Course", "play", "(LRulerWord$Council;LRulerWord$Voice;)V"⟩, 18) := ⟨⟨by decide +kernel, by decide +kernel⟩, List.mem_of_getElem? (i := 174) (by decide +kernel), List.mem_of_getElem? (i := 616) (by decide +kernel), List.mem_of_getElem? (i := 617) (by decide +kernel)⟩
theorem lw_p28 : lw_okq (⟨"RulerWord$Council", "ruler", "(I)I"⟩, 8) := ⟨⟨by decide +kernel, by decide +kernel⟩, List.mem_of_getElem? (i := 63) (by decide +kernel), List.mem_of_getElem? (i := 623) (by decide +kernel), List.mem_of_getElem? (i := 624) (by decide +kernel)⟩
theorem lw_p29 : lw_okq (⟨"RulerWord$Course", "send", "(LRulerWord$Council;LRulerWord$Voice;II)V"⟩, 18) := ⟨⟨by decide +kernel, by decide +kernel⟩, List.mem_of_getElem? (i := 174) (by decide +kernel), List.mem_of_getElem? (i := 627) (by decide +kernel), List.mem_of_getElem? (i := 628) (by decide +kernel)⟩
theorem lw_p30 : lw_okq (⟨"RulerWord$Course", "rowOf", "(LRulerWord$Council;LRulerWord$Voice;I)J"⟩, 18) := ⟨⟨by decide +kernel, by decide +kernel⟩, List.mem_of_getElem? (i := 174) (by decide +kernel), List.mem_of_getElem? (i := 631) (by decide +kernel), List.mem_of_getElem? (i := 632) (by decide +kernel)⟩
theorem lw_p31 : lw_okq (⟨"RulerWord$Course", "trueLetter", "(LRulerWord$Council;LRulerWord$Voice;I)I"⟩, 18) := ⟨⟨by decide +kernel, by decide +kernel⟩, List.mem_of_getElem? (i := 174) (by decide +kernel), List.mem_of_getElem? (i := 635) (by decide +kernel), List.mem_of_getElem? (i := 636) (by decide +kernel)⟩
def lw_privs_2 : List (MethodName × Nat) := [(⟨"RulerWord$Plan", "readLine", "(LRulerWord$Tape;I)Z"⟩, 2), (⟨"RulerWord$Council", "copy", "(LRulerWord$Council;)V"⟩, 8), (⟨"RulerWord$Course", "begin", "(IIJ)V"⟩, 18), (⟨"RulerWord$Plan", "copy", "(LRulerWord$Plan;)V"⟩, 2), (⟨"RulerWord$Council", "phaseAt", "(I)I"⟩, 8), (⟨"RulerWord$Council", "rounds", "()I"⟩, 8), (⟨"RulerWord$Council", "turnAt", "(I)I"⟩, 8), (⟨"RulerWord", "roundsLeft", "()I"⟩, 18), (⟨"RulerWord$Council", "allRounds", "()I"⟩, 8), (⟨"RulerWord$Acts", "keep", "(LRulerWord$Course;)V"⟩, 3), (⟨"RulerWord$Course", "copy", "(LRulerWord$Course;)V"⟩, 18), (⟨"RulerWord$Course", "play", "(LRulerWord$Council;LRulerWord$Voice;)V"⟩, 18), (⟨"RulerWord$Council", "ruler", "(I)I"⟩, 8), (⟨"RulerWord$Course", "send", "(LRulerWord$Council;LRulerWord$Voice;II)V"⟩, 18), (⟨"RulerWord$Course", "rowOf", "(LRulerWord$Council;LRulerWord$Voice;I)J"⟩, 18), (⟨"RulerWord$Course", "trueLetter", "(LRulerWord$Council;LRulerWord$Voice;I)I"⟩, 18)]
theorem lw_r2 : ∀ q ∈ lw_privs_2, lw_okq q := List.forall_mem_cons.mpr ⟨lw_p16, List.forall_mem_cons.mpr ⟨lw_p17, List.forall_mem_cons.mpr ⟨lw_p18, List.forall_mem_cons.mpr ⟨lw_p19, List.forall_mem_cons.mpr ⟨lw_p20, List.forall_mem_cons.mpr ⟨lw_p21, List.forall_mem_cons.mpr ⟨lw_p22, List.forall_mem_cons.mpr ⟨lw_p23, List.forall_mem_cons.mpr ⟨lw_p24, List.forall_mem_cons.mpr ⟨lw_p25, List.forall_mem_cons.mpr ⟨lw_p26, List.forall_mem_cons.mpr ⟨lw_p27, List.forall_mem_cons.mpr ⟨lw_p28, List.forall_mem_cons.mpr ⟨lw_p29, List.forall_mem_cons.mpr ⟨lw_p30, List.forall_mem_cons.mpr ⟨lw_p31, fun _ h => absurd h List.not_mem_nil⟩⟩⟩⟩⟩⟩⟩⟩⟩⟩⟩⟩⟩⟩⟩⟩
theorem lw_p32 : lw_okq (⟨"RulerWord$Course", "draw", "()I"⟩, 18) := ⟨⟨by decide +kernel, by decide +kernel⟩, List.mem_of_getElem? (i := 174) (by decide +kernel), List.mem_of_getElem? (i := 650) (by decide +kernel), List.mem_of_getElem? (i := 651) (by decide +kernel)⟩
theorem lw_p33 : lw_okq (⟨"RulerWord$Course", "saidLetter", "(IIII)I"⟩, 18) := ⟨⟨by decide +kernel, by decide +kernel⟩, List.mem_of_getElem? (i := 174) (by decide +kernel), List.mem_of_getElem? (i := 664) (by decide +kernel), List.mem_of_getElem? (i := 665) (by decide +kernel)⟩
theorem lw_p34 : lw_okq (⟨"RulerWord$Plan", "actFor", "(IIII)I"⟩, 2) := ⟨⟨by decide +kernel, by decide +kernel⟩, List.mem_of_getElem? (i := 108) (by decide +kernel), List.mem_of_getElem? (i := 671) (by decide +kernel), List.mem_of_getElem? (i := 672) (by decide +kernel)⟩
theorem lw_p35 : lw_okq (⟨"RulerWord$Course", "hearRuler", "(LRulerWord$Council;II)V"⟩, 18) := ⟨⟨by decide +kernel, by decide +kernel⟩, List.mem_of_getElem? (i := 174) (by decide +kernel), List.mem_of_getElem? (i := 687) (by decide +kernel), List.mem_of_getElem? (i := 688) (by decide +kernel)⟩
theorem lw_p36 : lw_okq (⟨"RulerWord$Course", "letter", "(IIII)I"⟩, 18) := ⟨⟨by decide +kernel, by decide +kernel⟩, List.mem_of_getElem? (i := 174) (by decide +kernel), List.mem_of_getElem? (i := 691) (by decide +kernel), List.mem_of_getElem? (i := 692) (by decide +kernel)⟩
theorem lw_p37 : lw_okq (⟨"RulerWord$Course", "waryOf", "(I)I"⟩, 18) := ⟨⟨by decide +kernel, by decide +kernel⟩, List.mem_of_getElem? (i := 174) (by decide +kernel), List.mem_of_getElem? (i := 695) (by decide +kernel), List.mem_of_getElem? (i := 696) (by decide +kernel)⟩
theorem lw_p38 : lw_okq (⟨"RulerWord$Course", "hearAll", "(LRulerWord$Council;II)V"⟩, 18) := ⟨⟨by decide +kernel, by decide +kernel⟩, List.mem_of_getElem? (i := 174) (by decide +kernel), List.mem_of_getElem? (i := 699) (by decide +kernel), List.mem_of_getElem? (i := 700) (by decide +kernel)⟩
theorem lw_p39 : lw_okq (⟨"RulerWord$Course", "zerosHeard", "(LRulerWord$Council;III)I"⟩, 18) := ⟨⟨by decide +kernel, by decide +kernel⟩, List.mem_of_getElem? (i := 174) (by decide +kernel), List.mem_of_getElem? (i := 703) (by decide +kernel), List.mem_of_getElem? (i := 704) (by decide +kernel)⟩
theorem lw_p40 : lw_okq (⟨"RulerWord$Course", "onesHeard", "(III)I"⟩, 18) := ⟨⟨by decide +kernel, by decide +kernel⟩, List.mem_of_getElem? (i := 174) (by decide +kernel), List.mem_of_getElem? (i := 707) (by decide +kernel), List.mem_of_getElem? (i := 708) (by decide +kernel)⟩
theorem lw_p41 : lw_okq (⟨"RulerWord$Council", "offer", "(II)I"⟩, 8) := ⟨⟨by decide +kernel, by decide +kernel⟩, List.mem_of_getElem? (i := 63) (by decide +kernel), List.mem_of_getElem? (i := 711) (by decide +kernel), List.mem_of_getElem? (i := 712) (by decide +kernel)⟩
theorem lw_p42 : lw_okq (⟨"RulerWord$Council", "view", "(II)I"⟩, 8) := ⟨⟨by decide +kernel, by decide +kernel⟩, List.mem_of_getElem? (i := 63) (by decide +kernel), List.mem_of_getElem? (i := 715) (by decide +kernel), List.mem_of_getElem? (i := 716) (by decide +kernel)⟩
theorem lw_p43 : lw_okq (⟨"RulerWord$Course", "takeView", "(LRulerWord$Council;III)V"⟩, 18) := ⟨⟨by decide +kernel, by decide +kernel⟩, List.mem_of_getElem? (i := 174) (by decide +kernel), List.mem_of_getElem? (i := 722) (by decide +kernel), List.mem_of_getElem? (i := 723) (by decide +kernel)⟩
theorem lw_p44 : lw_okq (⟨"RulerWord", "whyNotSaid", "(IIIII)I"⟩, 18) := ⟨⟨by decide +kernel, by decide +kernel⟩, List.mem_of_getElem? (i := 26) (by decide +kernel), List.mem_of_getElem? (i := 734) (by decide +kernel), List.mem_of_getElem? (i := 735) (by decide +kernel)⟩
theorem lw_p45 : lw_okq (⟨"RulerWord", "isRound", "(II)Z"⟩, 18) := ⟨⟨by decide +kernel, by decide +kernel⟩, List.mem_of_getElem? (i := 26) (by decide +kernel), List.mem_of_getElem? (i := 738) (by decide +kernel), List.mem_of_getElem? (i := 739) (by decide +kernel)⟩
theorem lw_p46 : lw_okq (⟨"RulerWord", "isPeer", "(I)Z"⟩, 18) := ⟨⟨by decide +kernel, by decide +kernel⟩, List.mem_of_getElem? (i := 26) (by decide +kernel), List.mem_of_getElem? (i := 742) (by decide +kernel), List.mem_of_getElem? (i := 743) (by decide +kernel)⟩
theorem lw_p47 : lw_okq (⟨"RulerWord", "isGone", "(II)Z"⟩, 18) := ⟨⟨by decide +kernel, by decide +kernel⟩, List.mem_of_getElem? (i := 26) (by decide +kernel), List.mem_of_getElem? (i := 747) (by decide +kernel), List.mem_of_getElem? (i := 748) (by decide +kernel)⟩
def lw_privs_3 : List (MethodName × Nat) := [(⟨"RulerWord$Course", "draw", "()I"⟩, 18), (⟨"RulerWord$Course", "saidLetter", "(IIII)I"⟩, 18), (⟨"RulerWord$Plan", "actFor", "(IIII)I"⟩, 2), (⟨"RulerWord$Course", "hearRuler", "(LRulerWord$Council;II)V"⟩, 18), (⟨"RulerWord$Course", "letter", "(IIII)I"⟩, 18), (⟨"RulerWord$Course", "waryOf", "(I)I"⟩, 18), (⟨"RulerWord$Course", "hearAll", "(LRulerWord$Council;II)V"⟩, 18), (⟨"RulerWord$Course", "zerosHeard", "(LRulerWord$Council;III)I"⟩, 18), (⟨"RulerWord$Course", "onesHeard", "(III)I"⟩, 18), (⟨"RulerWord$Council", "offer", "(II)I"⟩, 8), (⟨"RulerWord$Council", "view", "(II)I"⟩, 8), (⟨"RulerWord$Course", "takeView", "(LRulerWord$Council;III)V"⟩, 18), (⟨"RulerWord", "whyNotSaid", "(IIIII)I"⟩, 18), (⟨"RulerWord", "isRound", "(II)Z"⟩, 18), (⟨"RulerWord", "isPeer", "(I)Z"⟩, 18), (⟨"RulerWord", "isGone", "(II)Z"⟩, 18)]
theorem lw_r3 : ∀ q ∈ lw_privs_3, lw_okq q := List.forall_mem_cons.mpr ⟨lw_p32, List.forall_mem_cons.mpr ⟨lw_p33, List.forall_mem_cons.mpr ⟨lw_p34, List.forall_mem_cons.mpr ⟨lw_p35, List.forall_mem_cons.mpr ⟨lw_p36, List.forall_mem_cons.mpr ⟨lw_p37, List.forall_mem_cons.mpr ⟨lw_p38, List.forall_mem_cons.mpr ⟨lw_p39, List.forall_mem_cons.mpr ⟨lw_p40, List.forall_mem_cons.mpr ⟨lw_p41, List.forall_mem_cons.mpr ⟨lw_p42, List.forall_mem_cons.mpr ⟨lw_p43, List.forall_mem_cons.mpr ⟨lw_p44, List.forall_mem_cons.mpr ⟨lw_p45, List.forall_mem_cons.mpr ⟨lw_p46, List.forall_mem_cons.mpr ⟨lw_p47, fun _ h => absurd h List.not_mem_nil⟩⟩⟩⟩⟩⟩⟩⟩⟩⟩⟩⟩⟩⟩⟩⟩
theorem lw_p48 : lw_okq (⟨"RulerWord", "refuse", "(I)I"⟩, 18) := ⟨⟨by decide +kernel, by decide +kernel⟩, List.mem_of_getElem? (i := 26) (by decide +kernel), List.mem_of_getElem? (i := 751) (by decide +kernel), List.mem_of_getElem? (i := 752) (by decide +kernel)⟩
theorem lw_p49 : lw_okq (⟨"RulerWord$Course", "addSaid", "(IIIII)V"⟩, 18) := ⟨⟨by decide +kernel, by decide +kernel⟩, List.mem_of_getElem? (i := 174) (by decide +kernel), List.mem_of_getElem? (i := 755) (by decide +kernel), List.mem_of_getElem? (i := 756) (by decide +kernel)⟩
theorem lw_p50 : lw_okq (⟨"RulerWord$Council", "everybody", "()I"⟩, 8) := ⟨⟨by decide +kernel, by decide +kernel⟩, List.mem_of_getElem? (i := 63) (by decide +kernel), List.mem_of_getElem? (i := 763) (by decide +kernel), List.mem_of_getElem? (i := 764) (by decide +kernel)⟩
theorem lw_p51 : lw_okq (⟨"RulerWord", "whyNotTold", "(II)I"⟩, 18) := ⟨⟨by decide +kernel, by decide +kernel⟩, List.mem_of_getElem? (i := 26) (by decide +kernel), List.mem_of_getElem? (i := 767) (by decide +kernel), List.mem_of_getElem? (i := 768) (by decide +kernel)⟩
theorem lw_p52 : lw_okq (⟨"RulerWord$Course", "dropSaidByTrue", "()V"⟩, 18) := ⟨⟨by decide +kernel, by decide +kernel⟩, List.mem_of_getElem? (i := 174) (by decide +kernel), List.mem_of_getElem? (i := 775) (by decide +kernel), List.mem_of_getElem? (i := 776) (by decide +kernel)⟩
theorem lw_p53 : lw_okq (⟨"RulerWord$Course", "suspectedBy", "(I)I"⟩, 18) := ⟨⟨by decide +kernel, by decide +kernel⟩, List.mem_of_getElem? (i := 174) (by decide +kernel), List.mem_of_getElem? (i := 789) (by decide +kernel), List.mem_of_getElem? (i := 790) (by decide +kernel)⟩
theorem lw_p54 : lw_okq (⟨"RulerWord", "isOver", "(I)Z"⟩, 18) := ⟨⟨by decide +kernel, by decide +kernel⟩, List.mem_of_getElem? (i := 26) (by decide +kernel), List.mem_of_getElem? (i := 797) (by decide +kernel), List.mem_of_getElem? (i := 798) (by decide +kernel)⟩
theorem lw_p55 : lw_okq (⟨"RulerWord", "phasesOver", "()I"⟩, 18) := ⟨⟨by decide +kernel, by decide +kernel⟩, List.mem_of_getElem? (i := 26) (by decide +kernel), List.mem_of_getElem? (i := 801) (by decide +kernel), List.mem_of_getElem? (i := 802) (by decide +kernel)⟩
theorem lw_p56 : lw_okq (⟨"RulerWord$Course", "agreedFrom", "(LRulerWord$Council;)I"⟩, 18) := ⟨⟨by decide +kernel, by decide +kernel⟩, List.mem_of_getElem? (i := 174) (by decide +kernel), List.mem_of_getElem? (i := 813) (by decide +kernel), List.mem_of_getElem? (i := 814) (by decide +kernel)⟩
theorem lw_p57 : lw_okq (⟨"RulerWord$Course", "alike", "(LRulerWord$Council;I)Z"⟩, 18) := ⟨⟨by decide +kernel, by decide +kernel⟩, List.mem_of_getElem? (i := 174) (by decide +kernel), List.mem_of_getElem? (i := 817) (by decide +kernel), List.mem_of_getElem? (i := 818) (by decide +kernel)⟩
theorem lw_p58 : lw_okq (⟨"RulerWord$Course", "trues", "(LRulerWord$Council;)I"⟩, 18) := ⟨⟨by decide +kernel, by decide +kernel⟩, List.mem_of_getElem? (i := 174) (by decide +kernel), List.mem_of_getElem? (i := 821) (by decide +kernel), List.mem_of_getElem? (i := 822) (by decide +kernel)⟩
theorem lw_p59 : lw_okq (⟨"RulerWord", "isSomeStart", "(I)Z"⟩, 18) := ⟨⟨by decide +kernel, by decide +kernel⟩, List.mem_of_getElem? (i := 26) (by decide +kernel), List.mem_of_getElem? (i := 838) (by decide +kernel), List.mem_of_getElem? (i := 839) (by decide +kernel)⟩
theorem lw_p60 : lw_okq (⟨"RulerWord$Council", "foretold", "()I"⟩, 8) := ⟨⟨by decide +kernel, by decide +kernel⟩, List.mem_of_getElem? (i := 63) (by decide +kernel), List.mem_of_getElem? (i := 846) (by decide +kernel), List.mem_of_getElem? (i := 847) (by decide +kernel)⟩
theorem lw_p61 : lw_okq (⟨"RulerWord", "freeWith", "(I)I"⟩, 18) := ⟨⟨by decide +kernel, by decide +kernel⟩, List.mem_of_getElem? (i := 26) (by decide +kernel), List.mem_of_getElem? (i := 863) (by decide +kernel), List.mem_of_getElem? (i := 864) (by decide +kernel)⟩
theorem lw_p62 : lw_okq (⟨"RulerWord$Council", "freeLetters", "(II)I"⟩, 8) := ⟨⟨by decide +kernel, by decide +kernel⟩, List.mem_of_getElem? (i := 63) (by decide +kernel), List.mem_of_getElem? (i := 867) (by decide +kernel), List.mem_of_getElem? (i := 868) (by decide +kernel)⟩
theorem lw_p63 : lw_okq (⟨"RulerWord", "isAsked", "(I)Z"⟩, 18) := ⟨⟨by decide +kernel, by decide +kernel⟩, List.mem_of_getElem? (i := 26) (by decide +kernel), List.mem_of_getElem? (i := 877) (by decide +kernel), List.mem_of_getElem? (i := 878) (by decide +kernel)⟩
def lw_privs_4 : List (MethodName × Nat) := [(⟨"RulerWord", "refuse", "(I)I"⟩, 18), (⟨"RulerWord$Course", "addSaid", "(IIIII)V"⟩, 18), (⟨"RulerWord$Council", "everybody", "()I"⟩, 8), (⟨"RulerWord", "whyNotTold", "(II)I"⟩, 18), (⟨"RulerWord$Course", "dropSaidByTrue", "()V"⟩, 18), (⟨"RulerWord$Course", "suspectedBy", "(I)I"⟩, 18), (⟨"RulerWord", "isOver", "(I)Z"⟩, 18), (⟨"RulerWord", "phasesOver", "()I"⟩, 18), (⟨"RulerWord$Course", "agreedFrom", "(LRulerWord$Council;)I"⟩, 18), (⟨"RulerWord$Course", "alike", "(LRulerWord$Council;I)Z"⟩, 18), (⟨"RulerWord$Course", "trues", "(LRulerWord$Council;)I"⟩, 18), (⟨"RulerWord", "isSomeStart", "(I)Z"⟩, 18), (⟨"RulerWord$Council", "foretold", "()I"⟩, 8), (⟨"RulerWord", "freeWith", "(I)I"⟩, 18), (⟨"RulerWord$Council", "freeLetters", "(II)I"⟩, 8), (⟨"RulerWord", "isAsked", "(I)Z"⟩, 18)]
theorem lw_r4 : ∀ q ∈ lw_privs_4, lw_okq q := List.forall_mem_cons.mpr ⟨lw_p48, List.forall_mem_cons.mpr ⟨lw_p49, List.forall_mem_cons.mpr ⟨lw_p50, List.forall_mem_cons.mpr ⟨lw_p51, List.forall_mem_cons.mpr ⟨lw_p52, List.forall_mem_cons.mpr ⟨lw_p53, List.forall_mem_cons.mpr ⟨lw_p54, List.forall_mem_cons.mpr ⟨lw_p55, List.forall_mem_cons.mpr ⟨lw_p56, List.forall_mem_cons.mpr ⟨lw_p57, List.forall_mem_cons.mpr ⟨lw_p58, List.forall_mem_cons.mpr ⟨lw_p59, List.forall_mem_cons.mpr ⟨lw_p60, List.forall_mem_cons.mpr ⟨lw_p61, List.forall_mem_cons.mpr ⟨lw_p62, List.forall_mem_cons.mpr ⟨lw_p63, fun _ h => absurd h List.not_mem_nil⟩⟩⟩⟩⟩⟩⟩⟩⟩⟩⟩⟩⟩⟩⟩⟩
theorem lw_p64 : lw_okq (⟨"RulerWord$Search", "prepare", "(LRulerWord$Council;II)V"⟩, 14) := ⟨⟨by decide +kernel, by decide +kernel⟩, List.mem_of_getElem? (i := 269) (by decide +kernel), List.mem_of_getElem? (i := 881) (by decide +kernel), List.mem_of_getElem? (i := 882) (by decide +kernel)⟩
theorem lw_p65 : lw_okq (⟨"RulerWord$Search", "least", "(I)I"⟩, 14) := ⟨⟨by decide +kernel, by decide +kernel⟩, List.mem_of_getElem? (i := 269) (by decide +kernel), List.mem_of_getElem? (i := 890) (by decide +kernel), List.mem_of_getElem? (i := 891) (by decide +kernel)⟩
theorem lw_p66 : lw_okq (⟨"RulerWord$Search", "explore", "(IIJI)V"⟩, 14) := ⟨⟨by decide +kernel, by decide +kernel⟩, List.mem_of_getElem? (i := 269) (by decide +kernel), List.mem_of_getElem? (i := 894) (by decide +kernel), List.mem_of_getElem? (i := 895) (by decide +kernel)⟩
theorem lw_p67 : lw_okq (⟨"RulerWord$Search", "judge", "(II)V"⟩, 14) := ⟨⟨by decide +kernel, by decide +kernel⟩, List.mem_of_getElem? (i := 269) (by decide +kernel), List.mem_of_getElem? (i := 898) (by decide +kernel), List.mem_of_getElem? (i := 899) (by decide +kernel)⟩
theorem lw_p68 : lw_okq (⟨"RulerWord$Search", "tryOffers", "(IIJI)V"⟩, 14) := ⟨⟨by decide +kernel, by decide +kernel⟩, List.mem_of_getElem? (i := 269) (by decide +kernel), List.mem_of_getElem? (i := 902) (by decide +kernel), List.mem_of_getElem? (i := 903) (by decide +kernel)⟩
theorem lw_p69 : lw_okq (⟨"RulerWord$Search", "addChoice", "(IIII)I"⟩, 14) := ⟨⟨by decide +kernel, by decide +kernel⟩, List.mem_of_getElem? (i := 269) (by decide +kernel), List.mem_of_getElem? (i := 907) (by decide +kernel), List.mem_of_getElem? (i := 908) (by decide +kernel)⟩
theorem lw_p70 : lw_okq (⟨"RulerWord$Search", "power", "(I)I"⟩, 14) := ⟨⟨by decide +kernel, by decide +kernel⟩, List.mem_of_getElem? (i := 269) (by decide +kernel), List.mem_of_getElem? (i := 911) (by decide +kernel), List.mem_of_getElem? (i := 912) (by decide +kernel)⟩
theorem lw_p71 : lw_okq (⟨"RulerWord$Search", "isEnough", "()Z"⟩, 14) := ⟨⟨by decide +kernel, by decide +kernel⟩, List.mem_of_getElem? (i := 269) (by decide +kernel), List.mem_of_getElem? (i := 915) (by decide +kernel), List.mem_of_getElem? (i := 916) (by decide +kernel)⟩
theorem lw_p72 : lw_okq (⟨"RulerWord$Search", "bitsOf", "(II)I"⟩, 14) := ⟨⟨by decide +kernel, by decide +kernel⟩, List.mem_of_getElem? (i := 269) (by decide +kernel), List.mem_of_getElem? (i := 922) (by decide +kernel), List.mem_of_getElem? (i := 923) (by decide +kernel)⟩
theorem lw_p73 : lw_okq (⟨"RulerWord$Search", "tryViews", "(IIJII)V"⟩, 14) := ⟨⟨by decide +kernel, by decide +kernel⟩, List.mem_of_getElem? (i := 269) (by decide +kernel), List.mem_of_getElem? (i := 926) (by decide +kernel), List.mem_of_getElem? (i := 927) (by decide +kernel)⟩
theorem lw_p74 : lw_okq (⟨"RulerWord$Search", "tryRuler", "(IIIJI)V"⟩, 14) := ⟨⟨by decide +kernel, by decide +kernel⟩, List.mem_of_getElem? (i := 269) (by decide +kernel), List.mem_of_getElem? (i := 934) (by decide +kernel), List.mem_of_getElem? (i := 935) (by decide +kernel)⟩
theorem lw_p75 : lw_okq (⟨"RulerWord$Search", "doesSuspicionCount", "(I)Z"⟩, 14) := ⟨⟨by decide +kernel, by decide +kernel⟩, List.mem_of_getElem? (i := 269) (by decide +kernel), List.mem_of_getElem? (i := 939) (by decide +kernel), List.mem_of_getElem? (i := 940) (by decide +kernel)⟩
theorem lw_p76 : lw_okq (⟨"RulerWord$Search", "spread", "(I)I"⟩, 14) := ⟨⟨by decide +kernel, by decide +kernel⟩, List.mem_of_getElem? (i := 269) (by decide +kernel), List.mem_of_getElem? (i := 943) (by decide +kernel), List.mem_of_getElem? (i := 944) (by decide +kernel)⟩
theorem lw_p77 : lw_okq (⟨"RulerWord", "countBrokenStarts", "(I)I"⟩, 18) := ⟨⟨by decide +kernel, by decide +kernel⟩, List.mem_of_getElem? (i := 26) (by decide +kernel), List.mem_of_getElem? (i := 951) (by decide +kernel), List.mem_of_getElem? (i := 952) (by decide +kernel)⟩
theorem lw_p78 : lw_okq (⟨"RulerWord$Search", "isBroken", "(I)Z"⟩, 14) := ⟨⟨by decide +kernel, by decide +kernel⟩, List.mem_of_getElem? (i := 269) (by decide +kernel), List.mem_of_getElem? (i := 955) (by decide +kernel), List.mem_of_getElem? (i := 956) (by decide +kernel)⟩
theorem lw_p79 : lw_okq (⟨"RulerWord", "leastBrokenStart", "(I)I"⟩, 18) := ⟨⟨by decide +kernel, by decide +kernel⟩, List.mem_of_getElem? (i := 26) (by decide +kernel), List.mem_of_getElem? (i := 959) (by decide +kernel), List.mem_of_getElem? (i := 960) (by decide +kernel)⟩
def lw_privs_5 : List (MethodName × Nat) := [(⟨"RulerWord$Search", "prepare", "(LRulerWord$Council;II)V"⟩, 14), (⟨"RulerWord$Search", "least", "(I)I"⟩, 14), (⟨"RulerWord$Search", "explore", "(IIJI)V"⟩, 14), (⟨"RulerWord$Search", "judge", "(II)V"⟩, 14), (⟨"RulerWord$Search", "tryOffers", "(IIJI)V"⟩, 14), (⟨"RulerWord$Search", "addChoice", "(IIII)I"⟩, 14), (⟨"RulerWord$Search", "power", "(I)I"⟩, 14), (⟨"RulerWord$Search", "isEnough", "()Z"⟩, 14), (⟨"RulerWord$Search", "bitsOf", "(II)I"⟩, 14), (⟨"RulerWord$Search", "tryViews", "(IIJII)V"⟩, 14), (⟨"RulerWord$Search", "tryRuler", "(IIIJI)V"⟩, 14), (⟨"RulerWord$Search", "doesSuspicionCount", "(I)Z"⟩, 14), (⟨"RulerWord$Search", "spread", "(I)I"⟩, 14), (⟨"RulerWord", "countBrokenStarts", "(I)I"⟩, 18), (⟨"RulerWord$Search", "isBroken", "(I)Z"⟩, 14), (⟨"RulerWord", "leastBrokenStart", "(I)I"⟩, 18)]
theorem lw_r5 : ∀ q ∈ lw_privs_5, lw_okq q := List.forall_mem_cons.mpr ⟨lw_p64, List.forall_mem_cons.mpr ⟨lw_p65, List.forall_mem_cons.mpr ⟨lw_p66, List.forall_mem_cons.mpr ⟨lw_p67, List.forall_mem_cons.mpr ⟨lw_p68, List.forall_mem_cons.mpr ⟨lw_p69, List.forall_mem_cons.mpr ⟨lw_p70, List.forall_mem_cons.mpr ⟨lw_p71, List.forall_mem_cons.mpr ⟨lw_p72, List.forall_mem_cons.mpr ⟨lw_p73, List.forall_mem_cons.mpr ⟨lw_p74, List.forall_mem_cons.mpr ⟨lw_p75, List.forall_mem_cons.mpr ⟨lw_p76, List.forall_mem_cons.mpr ⟨lw_p77, List.forall_mem_cons.mpr ⟨lw_p78, List.forall_mem_cons.mpr ⟨lw_p79, fun _ h => absurd h List.not_mem_nil⟩⟩⟩⟩⟩⟩⟩⟩⟩⟩⟩⟩⟩⟩⟩⟩
theorem lw_p80 : lw_okq (⟨"RulerWord", "writeBrokenRound", "(III)V"⟩, 18) := ⟨⟨by decide +kernel, by decide +kernel⟩, List.mem_of_getElem? (i := 26) (by decide +kernel), List.mem_of_getElem? (i := 972) (by decide +kernel), List.mem_of_getElem? (i := 973) (by decide +kernel)⟩
theorem lw_p81 : lw_okq (⟨"RulerWord", "freeBefore", "(II)I"⟩, 18) := ⟨⟨by decide +kernel, by decide +kernel⟩, List.mem_of_getElem? (i := 26) (by decide +kernel), List.mem_of_getElem? (i := 976) (by decide +kernel), List.mem_of_getElem? (i := 977) (by decide +kernel)⟩
theorem lw_p82 : lw_okq (⟨"RulerWord$Tape", "writeNumber", "(Ljava/lang/String;I)V"⟩, 5) := ⟨⟨by decide +kernel, by decide +kernel⟩, List.mem_of_getElem? (i := 34) (by decide +kernel), List.mem_of_getElem? (i := 982) (by decide +kernel), List.mem_of_getElem? (i := 983) (by decide +kernel)⟩
theorem lw_p83 : lw_okq (⟨"RulerWord$Tape", "write", "(Ljava/lang/String;)V"⟩, 5) := ⟨⟨by decide +kernel, by decide +kernel⟩, List.mem_of_getElem? (i := 34) (by decide +kernel), List.mem_of_getElem? (i := 986) (by decide +kernel), List.mem_of_getElem? (i := 987) (by decide +kernel)⟩
theorem lw_p84 : lw_okq (⟨"RulerWord", "byteOfText", "(I)I"⟩, 18) := ⟨⟨by decide +kernel, by decide +kernel⟩, List.mem_of_getElem? (i := 26) (by decide +kernel), List.mem_of_getElem? (i := 994) (by decide +kernel), List.mem_of_getElem? (i := 995) (by decide +kernel)⟩
theorem lw_p85 : lw_okq (⟨"RulerWord", "ruledIn", "(III)I"⟩, 18) := ⟨⟨by decide +kernel, by decide +kernel⟩, List.mem_of_getElem? (i := 26) (by decide +kernel), List.mem_of_getElem? (i := 1006) (by decide +kernel), List.mem_of_getElem? (i := 1007) (by decide +kernel)⟩
theorem lw_p86 : lw_okq (⟨"RulerWord$Course", "crossedIn", "(LRulerWord$Council;I)I"⟩, 18) := ⟨⟨by decide +kernel, by decide +kernel⟩, List.mem_of_getElem? (i := 174) (by decide +kernel), List.mem_of_getElem? (i := 1010) (by decide +kernel), List.mem_of_getElem? (i := 1011) (by decide +kernel)⟩
theorem lw_p87 : lw_okq (⟨"RulerWord", "reachedByRuler", "(II)I"⟩, 18) := ⟨⟨by decide +kernel, by decide +kernel⟩, List.mem_of_getElem? (i := 26) (by decide +kernel), List.mem_of_getElem? (i := 1014) (by decide +kernel), List.mem_of_getElem? (i := 1015) (by decide +kernel)⟩
theorem lw_p88 : lw_okq (⟨"RulerWord", "playTrial", "(LRulerWord$Council;LRulerWord$Voice;J)V"⟩, 18) := ⟨⟨by decide +kernel, by decide +kernel⟩, List.mem_of_getElem? (i := 26) (by decide +kernel), List.mem_of_getElem? (i := 1022) (by decide +kernel), List.mem_of_getElem? (i := 1023) (by decide +kernel)⟩
theorem lw_p89 : lw_okq (⟨"RulerWord$Acts", "takeBack", "(LRulerWord$Course;)Z"⟩, 3) := ⟨⟨by decide +kernel, by decide +kernel⟩, List.mem_of_getElem? (i := 249) (by decide +kernel), List.mem_of_getElem? (i := 1055) (by decide +kernel), List.mem_of_getElem? (i := 1056) (by decide +kernel)⟩
theorem lw_p90 : lw_okq (⟨"RulerWord", "mostWary", "()I"⟩, 18) := ⟨⟨by decide +kernel, by decide +kernel⟩, List.mem_of_getElem? (i := 26) (by decide +kernel), List.mem_of_getElem? (i := 1076) (by decide +kernel), List.mem_of_getElem? (i := 1077) (by decide +kernel)⟩
theorem lw_p91 : lw_okq (⟨"RulerWord", "mostSuspected", "()I"⟩, 18) := ⟨⟨by decide +kernel, by decide +kernel⟩, List.mem_of_getElem? (i := 26) (by decide +kernel), List.mem_of_getElem? (i := 1080) (by decide +kernel), List.mem_of_getElem? (i := 1081) (by decide +kernel)⟩
theorem lw_p92 : lw_okq (⟨"RulerWord", "phasesInDoubt", "()I"⟩, 18) := ⟨⟨by decide +kernel, by decide +kernel⟩, List.mem_of_getElem? (i := 26) (by decide +kernel), List.mem_of_getElem? (i := 1085) (by decide +kernel), List.mem_of_getElem? (i := 1086) (by decide +kernel)⟩
theorem lw_p93 : lw_okq (⟨"RulerWord", "changesOfTrueOnes", "()I"⟩, 18) := ⟨⟨by decide +kernel, by decide +kernel⟩, List.mem_of_getElem? (i := 26) (by decide +kernel), List.mem_of_getElem? (i := 1089) (by decide +kernel), List.mem_of_getElem? (i := 1090) (by decide +kernel)⟩
theorem lw_p94 : lw_okq (⟨"RulerWord", "mostObedientPhase", "()I"⟩, 18) := ⟨⟨by decide +kernel, by decide +kernel⟩, List.mem_of_getElem? (i := 26) (by decide +kernel), List.mem_of_getElem? (i := 1093) (by decide +kernel), List.mem_of_getElem? (i := 1094) (by decide +kernel)⟩
theorem lw_p95 : lw_okq (⟨"java/lang/Throwable", "fillInStackTrace", "(I)Ljava/lang/Throwable;"⟩, 6) := ⟨⟨by decide +kernel, by decide +kernel⟩, List.mem_of_getElem? (i := 1145) (by decide +kernel), List.mem_of_getElem? (i := 1143) (by decide +kernel), List.mem_of_getElem? (i := 1144) (by decide +kernel)⟩
def lw_privs_6 : List (MethodName × Nat) := [(⟨"RulerWord", "writeBrokenRound", "(III)V"⟩, 18), (⟨"RulerWord", "freeBefore", "(II)I"⟩, 18), (⟨"RulerWord$Tape", "writeNumber", "(Ljava/lang/String;I)V"⟩, 5), (⟨"RulerWord$Tape", "write", "(Ljava/lang/String;)V"⟩, 5), (⟨"RulerWord", "byteOfText", "(I)I"⟩, 18), (⟨"RulerWord", "ruledIn", "(III)I"⟩, 18), (⟨"RulerWord$Course", "crossedIn", "(LRulerWord$Council;I)I"⟩, 18), (⟨"RulerWord", "reachedByRuler", "(II)I"⟩, 18), (⟨"RulerWord", "playTrial", "(LRulerWord$Council;LRulerWord$Voice;J)V"⟩, 18), (⟨"RulerWord$Acts", "takeBack", "(LRulerWord$Course;)Z"⟩, 3), (⟨"RulerWord", "mostWary", "()I"⟩, 18), (⟨"RulerWord", "mostSuspected", "()I"⟩, 18), (⟨"RulerWord", "phasesInDoubt", "()I"⟩, 18), (⟨"RulerWord", "changesOfTrueOnes", "()I"⟩, 18), (⟨"RulerWord", "mostObedientPhase", "()I"⟩, 18), (⟨"java/lang/Throwable", "fillInStackTrace", "(I)Ljava/lang/Throwable;"⟩, 6)]
theorem lw_r6 : ∀ q ∈ lw_privs_6, lw_okq q := List.forall_mem_cons.mpr ⟨lw_p80, List.forall_mem_cons.mpr ⟨lw_p81, List.forall_mem_cons.mpr ⟨lw_p82, List.forall_mem_cons.mpr ⟨lw_p83, List.forall_mem_cons.mpr ⟨lw_p84, List.forall_mem_cons.mpr ⟨lw_p85, List.forall_mem_cons.mpr ⟨lw_p86, List.forall_mem_cons.mpr ⟨lw_p87, List.forall_mem_cons.mpr ⟨lw_p88, List.forall_mem_cons.mpr ⟨lw_p89, List.forall_mem_cons.mpr ⟨lw_p90, List.forall_mem_cons.mpr ⟨lw_p91, List.forall_mem_cons.mpr ⟨lw_p92, List.forall_mem_cons.mpr ⟨lw_p93, List.forall_mem_cons.mpr ⟨lw_p94, List.forall_mem_cons.mpr ⟨lw_p95, fun _ h => absurd h List.not_mem_nil⟩⟩⟩⟩⟩⟩⟩⟩⟩⟩⟩⟩⟩⟩⟩⟩
theorem lw_p96 : lw_okq (⟨"RulerWord$Plan", "part", "(II)I"⟩, 2) := ⟨⟨by decide +kernel, by decide +kernel⟩, List.mem_of_getElem? (i := 108) (by decide +kernel), List.mem_of_getElem? (i := 1170) (by decide +kernel), List.mem_of_getElem? (i := 1171) (by decide +kernel)⟩
theorem lw_p97 : lw_okq (⟨"RulerWordModel", "brings", "(I)V"⟩, 56) := ⟨⟨by decide +kernel, by decide +kernel⟩, List.mem_of_getElem? (i := 1174) (by decide +kernel), List.mem_of_getElem? (i := 1362) (by decide +kernel), List.mem_of_getElem? (i := 1363) (by decide +kernel)⟩
theorem lw_p98 : lw_okq (⟨"RulerWordModel", "readsCouncil", "()I"⟩, 56) := ⟨⟨by decide +kernel, by decide +kernel⟩, List.mem_of_getElem? (i := 1174) (by decide +kernel), List.mem_of_getElem? (i := 1374) (by decide +kernel), List.mem_of_getElem? (i := 1375) (by decide +kernel)⟩
theorem lw_p99 : lw_okq (⟨"RulerWordModel", "look", "()I"⟩, 56) := ⟨⟨by decide +kernel, by decide +kernel⟩, List.mem_of_getElem? (i := 1174) (by decide +kernel), List.mem_of_getElem? (i := 1378) (by decide +kernel), List.mem_of_getElem? (i := 1379) (by decide +kernel)⟩
theorem lw_p100 : lw_okq (⟨"RulerWordModel", "here", "()I"⟩, 56) := ⟨⟨by decide +kernel, by decide +kernel⟩, List.mem_of_getElem? (i := 1174) (by decide +kernel), List.mem_of_getElem? (i := 1382) (by decide +kernel), List.mem_of_getElem? (i := 1383) (by decide +kernel)⟩
theorem lw_p101 : lw_okq (⟨"RulerWordModel", "takes", "(Ljava/lang/String;)Z"⟩, 56) := ⟨⟨by decide +kernel, by decide +kernel⟩, List.mem_of_getElem? (i := 1174) (by decide +kernel), List.mem_of_getElem? (i := 1387) (by decide +kernel), List.mem_of_getElem? (i := 1388) (by decide +kernel)⟩
theorem lw_p102 : lw_okq (⟨"RulerWordModel", "fails", "(I)V"⟩, 56) := ⟨⟨by decide +kernel, by decide +kernel⟩, List.mem_of_getElem? (i := 1174) (by decide +kernel), List.mem_of_getElem? (i := 1394) (by decide +kernel), List.mem_of_getElem? (i := 1395) (by decide +kernel)⟩
theorem lw_p103 : lw_okq (⟨"RulerWordModel", "piece", "()V"⟩, 56) := ⟨⟨by decide +kernel, by decide +kernel⟩, List.mem_of_getElem? (i := 1174) (by decide +kernel), List.mem_of_getElem? (i := 1398) (by decide +kernel), List.mem_of_getElem? (i := 1399) (by decide +kernel)⟩
theorem lw_p104 : lw_okq (⟨"RulerWordModel", "pieceHere", "()I"⟩, 56) := ⟨⟨by decide +kernel, by decide +kernel⟩, List.mem_of_getElem? (i := 1174) (by decide +kernel), List.mem_of_getElem? (i := 1402) (by decide +kernel), List.mem_of_getElem? (i := 1403) (by decide +kernel)⟩
theorem lw_p105 : lw_okq (⟨"RulerWordModel", "digit", "(II)I"⟩, 56) := ⟨⟨by decide +kernel, by decide +kernel⟩, List.mem_of_getElem? (i := 1174) (by decide +kernel), List.mem_of_getElem? (i := 1415) (by decide +kernel), List.mem_of_getElem? (i := 1416) (by decide +kernel)⟩
theorem lw_p106 : lw_okq (⟨"RulerWordModel", "digits", "()V"⟩, 56) := ⟨⟨by decide +kernel, by decide +kernel⟩, List.mem_of_getElem? (i := 1174) (by decide +kernel), List.mem_of_getElem? (i := 1419) (by decide +kernel), List.mem_of_getElem? (i := 1420) (by decide +kernel)⟩
theorem lw_p107 : lw_okq (⟨"RulerWordModel", "digitAt", "(I)I"⟩, 56) := ⟨⟨by decide +kernel, by decide +kernel⟩, List.mem_of_getElem? (i := 1174) (by decide +kernel), List.mem_of_getElem? (i := 1426) (by decide +kernel), List.mem_of_getElem? (i := 1427) (by decide +kernel)⟩
theorem lw_p108 : lw_okq (⟨"RulerWordModel", "starts", "()V"⟩, 56) := ⟨⟨by decide +kernel, by decide +kernel⟩, List.mem_of_getElem? (i := 1174) (by decide +kernel), List.mem_of_getElem? (i := 1433) (by decide +kernel), List.mem_of_getElem? (i := 1434) (by decide +kernel)⟩
theorem lw_p109 : lw_okq (⟨"RulerWordModel", "liars", "()V"⟩, 56) := ⟨⟨by decide +kernel, by decide +kernel⟩, List.mem_of_getElem? (i := 1174) (by decide +kernel), List.mem_of_getElem? (i := 1437) (by decide +kernel), List.mem_of_getElem? (i := 1438) (by decide +kernel)⟩
theorem lw_p110 : lw_okq (⟨"RulerWordModel", "readsPlan", "()I"⟩, 56) := ⟨⟨by decide +kernel, by decide +kernel⟩, List.mem_of_getElem? (i := 1174) (by decide +kernel), List.mem_of_getElem? (i := 1441) (by decide +kernel), List.mem_of_getElem? (i := 1442) (by decide +kernel)⟩
theorem lw_p111 : lw_okq (⟨"RulerWordModel", "planLine", "()V"⟩, 56) := ⟨⟨by decide +kernel, by decide +kernel⟩, List.mem_of_getElem? (i := 1174) (by decide +kernel), List.mem_of_getElem? (i := 1445) (by decide +kernel), List.mem_of_getElem? (i := 1446) (by decide +kernel)⟩
def lw_privs_7 : List (MethodName × Nat) := [(⟨"RulerWord$Plan", "part", "(II)I"⟩, 2), (⟨"RulerWordModel", "brings", "(I)V"⟩, 56), (⟨"RulerWordModel", "readsCouncil", "()I"⟩, 56), (⟨"RulerWordModel", "look", "()I"⟩, 56), (⟨"RulerWordModel", "here", "()I"⟩, 56), (⟨"RulerWordModel", "takes", "(Ljava/lang/String;)Z"⟩, 56), (⟨"RulerWordModel", "fails", "(I)V"⟩, 56), (⟨"RulerWordModel", "piece", "()V"⟩, 56), (⟨"RulerWordModel", "pieceHere", "()I"⟩, 56), (⟨"RulerWordModel", "digit", "(II)I"⟩, 56), (⟨"RulerWordModel", "digits", "()V"⟩, 56), (⟨"RulerWordModel", "digitAt", "(I)I"⟩, 56), (⟨"RulerWordModel", "starts", "()V"⟩, 56), (⟨"RulerWordModel", "liars", "()V"⟩, 56), (⟨"RulerWordModel", "readsPlan", "()I"⟩, 56), (⟨"RulerWordModel", "planLine", "()V"⟩, 56)]
theorem lw_r7 : ∀ q ∈ lw_privs_7, lw_okq q := List.forall_mem_cons.mpr ⟨lw_p96, List.forall_mem_cons.mpr ⟨lw_p97, List.forall_mem_cons.mpr ⟨lw_p98, List.forall_mem_cons.mpr ⟨lw_p99, List.forall_mem_cons.mpr ⟨lw_p100, List.forall_mem_cons.mpr ⟨lw_p101, List.forall_mem_cons.mpr ⟨lw_p102, List.forall_mem_cons.mpr ⟨lw_p103, List.forall_mem_cons.mpr ⟨lw_p104, List.forall_mem_cons.mpr ⟨lw_p105, List.forall_mem_cons.mpr ⟨lw_p106, List.forall_mem_cons.mpr ⟨lw_p107, List.forall_mem_cons.mpr ⟨lw_p108, List.forall_mem_cons.mpr ⟨lw_p109, List.forall_mem_cons.mpr ⟨lw_p110, List.forall_mem_cons.mpr ⟨lw_p111, fun _ h => absurd h List.not_mem_nil⟩⟩⟩⟩⟩⟩⟩⟩⟩⟩⟩⟩⟩⟩⟩⟩
theorem lw_p112 : lw_okq (⟨"RulerWordModel", "begins", "()V"⟩, 56) := ⟨⟨by decide +kernel, by decide +kernel⟩, List.mem_of_getElem? (i := 1174) (by decide +kernel), List.mem_of_getElem? (i := 1461) (by decide +kernel), List.mem_of_getElem? (i := 1462) (by decide +kernel)⟩
theorem lw_p113 : lw_okq (⟨"RulerWordModel", "startsAnew", "()V"⟩, 56) := ⟨⟨by decide +kernel, by decide +kernel⟩, List.mem_of_getElem? (i := 1174) (by decide +kernel), List.mem_of_getElem? (i := 1465) (by decide +kernel), List.mem_of_getElem? (i := 1466) (by decide +kernel)⟩
theorem lw_p114 : lw_okq (⟨"RulerWordModel", "laysDown", "()V"⟩, 56) := ⟨⟨by decide +kernel, by decide +kernel⟩, List.mem_of_getElem? (i := 1174) (by decide +kernel), List.mem_of_getElem? (i := 1469) (by decide +kernel), List.mem_of_getElem? (i := 1470) (by decide +kernel)⟩
theorem lw_p115 : lw_okq (⟨"RulerWordModel", "inAll", "()I"⟩, 56) := ⟨⟨by decide +kernel, by decide +kernel⟩, List.mem_of_getElem? (i := 1174) (by decide +kernel), List.mem_of_getElem? (i := 1481) (by decide +kernel), List.mem_of_getElem? (i := 1482) (by decide +kernel)⟩
theorem lw_p116 : lw_okq (⟨"RulerWordModel", "each", "()I"⟩, 56) := ⟨⟨by decide +kernel, by decide +kernel⟩, List.mem_of_getElem? (i := 1174) (by decide +kernel), List.mem_of_getElem? (i := 1485) (by decide +kernel), List.mem_of_getElem? (i := 1486) (by decide +kernel)⟩
theorem lw_p117 : lw_okq (⟨"RulerWordModel", "roundNow", "()V"⟩, 56) := ⟨⟨by decide +kernel, by decide +kernel⟩, List.mem_of_getElem? (i := 1174) (by decide +kernel), List.mem_of_getElem? (i := 1489) (by decide +kernel), List.mem_of_getElem? (i := 1490) (by decide +kernel)⟩
theorem lw_p118 : lw_okq (⟨"RulerWordModel", "keeps", "()V"⟩, 56) := ⟨⟨by decide +kernel, by decide +kernel⟩, List.mem_of_getElem? (i := 1174) (by decide +kernel), List.mem_of_getElem? (i := 1493) (by decide +kernel), List.mem_of_getElem? (i := 1494) (by decide +kernel)⟩
theorem lw_p119 : lw_okq (⟨"RulerWordModel", "takesUp", "()V"⟩, 56) := ⟨⟨by decide +kernel, by decide +kernel⟩, List.mem_of_getElem? (i := 1174) (by decide +kernel), List.mem_of_getElem? (i := 1497) (by decide +kernel), List.mem_of_getElem? (i := 1498) (by decide +kernel)⟩
theorem lw_p120 : lw_okq (⟨"RulerWordModel", "rounds", "()V"⟩, 56) := ⟨⟨by decide +kernel, by decide +kernel⟩, List.mem_of_getElem? (i := 1174) (by decide +kernel), List.mem_of_getElem? (i := 1501) (by decide +kernel), List.mem_of_getElem? (i := 1502) (by decide +kernel)⟩
theorem lw_p121 : lw_okq (⟨"RulerWordModel", "sends", "(II)V"⟩, 56) := ⟨⟨by decide +kernel, by decide +kernel⟩, List.mem_of_getElem? (i := 1174) (by decide +kernel), List.mem_of_getElem? (i := 1505) (by decide +kernel), List.mem_of_getElem? (i := 1506) (by decide +kernel)⟩
theorem lw_p122 : lw_okq (⟨"RulerWordModel", "letterOf", "(IIIII)I"⟩, 56) := ⟨⟨by decide +kernel, by decide +kernel⟩, List.mem_of_getElem? (i := 1174) (by decide +kernel), List.mem_of_getElem? (i := 1509) (by decide +kernel), List.mem_of_getElem? (i := 1510) (by decide +kernel)⟩
theorem lw_p123 : lw_okq (⟨"RulerWordModel", "isLiar", "(I)Z"⟩, 56) := ⟨⟨by decide +kernel, by decide +kernel⟩, List.mem_of_getElem? (i := 1174) (by decide +kernel), List.mem_of_getElem? (i := 1513) (by decide +kernel), List.mem_of_getElem? (i := 1514) (by decide +kernel)⟩
theorem lw_p124 : lw_okq (⟨"RulerWordModel", "byPlan", "(IIIII)I"⟩, 56) := ⟨⟨by decide +kernel, by decide +kernel⟩, List.mem_of_getElem? (i := 1174) (by decide +kernel), List.mem_of_getElem? (i := 1517) (by decide +kernel), List.mem_of_getElem? (i := 1518) (by decide +kernel)⟩
theorem lw_p125 : lw_okq (⟨"RulerWordModel", "draw", "()I"⟩, 56) := ⟨⟨by decide +kernel, by decide +kernel⟩, List.mem_of_getElem? (i := 1174) (by decide +kernel), List.mem_of_getElem? (i := 1524) (by decide +kernel), List.mem_of_getElem? (i := 1525) (by decide +kernel)⟩
theorem lw_p126 : lw_okq (⟨"RulerWordModel", "hearsAll", "(I)V"⟩, 56) := ⟨⟨by decide +kernel, by decide +kernel⟩, List.mem_of_getElem? (i := 1174) (by decide +kernel), List.mem_of_getElem? (i := 1531) (by decide +kernel), List.mem_of_getElem? (i := 1532) (by decide +kernel)⟩
theorem lw_p127 : lw_okq (⟨"RulerWordModel", "countOf", "(II)I"⟩, 56) := ⟨⟨by decide +kernel, by decide +kernel⟩, List.mem_of_getElem? (i := 1174) (by decide +kernel), List.mem_of_getElem? (i := 1535) (by decide +kernel), List.mem_of_getElem? (i := 1536) (by decide +kernel)⟩
def lw_privs_8 : List (MethodName × Nat) := [(⟨"RulerWordModel", "begins", "()V"⟩, 56), (⟨"RulerWordModel", "startsAnew", "()V"⟩, 56), (⟨"RulerWordModel", "laysDown", "()V"⟩, 56), (⟨"RulerWordModel", "inAll", "()I"⟩, 56), (⟨"RulerWordModel", "each", "()I"⟩, 56), (⟨"RulerWordModel", "roundNow", "()V"⟩, 56), (⟨"RulerWordModel", "keeps", "()V"⟩, 56), (⟨"RulerWordModel", "takesUp", "()V"⟩, 56), (⟨"RulerWordModel", "rounds", "()V"⟩, 56), (⟨"RulerWordModel", "sends", "(II)V"⟩, 56), (⟨"RulerWordModel", "letterOf", "(IIIII)I"⟩, 56), (⟨"RulerWordModel", "isLiar", "(I)Z"⟩, 56), (⟨"RulerWordModel", "byPlan", "(IIIII)I"⟩, 56), (⟨"RulerWordModel", "draw", "()I"⟩, 56), (⟨"RulerWordModel", "hearsAll", "(I)V"⟩, 56), (⟨"RulerWordModel", "countOf", "(II)I"⟩, 56)]
theorem lw_r8 : ∀ q ∈ lw_privs_8, lw_okq q := List.forall_mem_cons.mpr ⟨lw_p112, List.forall_mem_cons.mpr ⟨lw_p113, List.forall_mem_cons.mpr ⟨lw_p114, List.forall_mem_cons.mpr ⟨lw_p115, List.forall_mem_cons.mpr ⟨lw_p116, List.forall_mem_cons.mpr ⟨lw_p117, List.forall_mem_cons.mpr ⟨lw_p118, List.forall_mem_cons.mpr ⟨lw_p119, List.forall_mem_cons.mpr ⟨lw_p120, List.forall_mem_cons.mpr ⟨lw_p121, List.forall_mem_cons.mpr ⟨lw_p122, List.forall_mem_cons.mpr ⟨lw_p123, List.forall_mem_cons.mpr ⟨lw_p124, List.forall_mem_cons.mpr ⟨lw_p125, List.forall_mem_cons.mpr ⟨lw_p126, List.forall_mem_cons.mpr ⟨lw_p127, fun _ h => absurd h List.not_mem_nil⟩⟩⟩⟩⟩⟩⟩⟩⟩⟩⟩⟩⟩⟩⟩⟩
theorem lw_p128 : lw_okq (⟨"RulerWordModel", "hearsRuler", "(II)V"⟩, 56) := ⟨⟨by decide +kernel, by decide +kernel⟩, List.mem_of_getElem? (i := 1174) (by decide +kernel), List.mem_of_getElem? (i := 1540) (by decide +kernel), List.mem_of_getElem? (i := 1541) (by decide +kernel)⟩
theorem lw_p129 : lw_okq (⟨"RulerWordModel", "hearsOffers", "(I)V"⟩, 56) := ⟨⟨by decide +kernel, by decide +kernel⟩, List.mem_of_getElem? (i := 1174) (by decide +kernel), List.mem_of_getElem? (i := 1544) (by decide +kernel), List.mem_of_getElem? (i := 1545) (by decide +kernel)⟩
theorem lw_p130 : lw_okq (⟨"RulerWordModel", "refuse", "(I)I"⟩, 56) := ⟨⟨by decide +kernel, by decide +kernel⟩, List.mem_of_getElem? (i := 1174) (by decide +kernel), List.mem_of_getElem? (i := 1559) (by decide +kernel), List.mem_of_getElem? (i := 1560) (by decide +kernel)⟩
theorem lw_p131 : lw_okq (⟨"RulerWordModel", "isRound", "(II)Z"⟩, 56) := ⟨⟨by decide +kernel, by decide +kernel⟩, List.mem_of_getElem? (i := 1174) (by decide +kernel), List.mem_of_getElem? (i := 1563) (by decide +kernel), List.mem_of_getElem? (i := 1564) (by decide +kernel)⟩
theorem lw_p132 : lw_okq (⟨"RulerWordModel", "isPeer", "(I)Z"⟩, 56) := ⟨⟨by decide +kernel, by decide +kernel⟩, List.mem_of_getElem? (i := 1174) (by decide +kernel), List.mem_of_getElem? (i := 1567) (by decide +kernel), List.mem_of_getElem? (i := 1568) (by decide +kernel)⟩
theorem lw_p133 : lw_okq (⟨"RulerWordModel", "over", "()I"⟩, 56) := ⟨⟨by decide +kernel, by decide +kernel⟩, List.mem_of_getElem? (i := 1174) (by decide +kernel), List.mem_of_getElem? (i := 1618) (by decide +kernel), List.mem_of_getElem? (i := 1619) (by decide +kernel)⟩
theorem lw_p134 : lw_okq (⟨"RulerWordModel", "areAgreedBehind", "(I)Z"⟩, 56) := ⟨⟨by decide +kernel, by decide +kernel⟩, List.mem_of_getElem? (i := 1174) (by decide +kernel), List.mem_of_getElem? (i := 1627) (by decide +kernel), List.mem_of_getElem? (i := 1628) (by decide +kernel)⟩
theorem lw_p135 : lw_okq (⟨"RulerWordModel", "isTrue", "(I)Z"⟩, 56) := ⟨⟨by decide +kernel, by decide +kernel⟩, List.mem_of_getElem? (i := 1174) (by decide +kernel), List.mem_of_getElem? (i := 1631) (by decide +kernel), List.mem_of_getElem? (i := 1632) (by decide +kernel)⟩
theorem lw_p136 : lw_okq (⟨"RulerWordModel", "heldBehind", "(II)I"⟩, 56) := ⟨⟨by decide +kernel, by decide +kernel⟩, List.mem_of_getElem? (i := 1174) (by decide +kernel), List.mem_of_getElem? (i := 1635) (by decide +kernel), List.mem_of_getElem? (i := 1636) (by decide +kernel)⟩
theorem lw_p137 : lw_okq (⟨"RulerWordModel", "trueOnes", "(I)I"⟩, 56) := ⟨⟨by decide +kernel, by decide +kernel⟩, List.mem_of_getElem? (i := 1174) (by decide +kernel), List.mem_of_getElem? (i := 1643) (by decide +kernel), List.mem_of_getElem? (i := 1644) (by decide +kernel)⟩
theorem lw_p138 : lw_okq (⟨"RulerWordModel", "isSomeStart", "(I)Z"⟩, 56) := ⟨⟨by decide +kernel, by decide +kernel⟩, List.mem_of_getElem? (i := 1174) (by decide +kernel), List.mem_of_getElem? (i := 1647) (by decide +kernel), List.mem_of_getElem? (i := 1648) (by decide +kernel)⟩
theorem lw_p139 : lw_okq (⟨"RulerWordModel", "foretold", "(I)I"⟩, 56) := ⟨⟨by decide +kernel, by decide +kernel⟩, List.mem_of_getElem? (i := 1174) (by decide +kernel), List.mem_of_getElem? (i := 1655) (by decide +kernel), List.mem_of_getElem? (i := 1656) (by decide +kernel)⟩
theorem lw_p140 : lw_okq (⟨"RulerWordModel", "freeIn", "(I)I"⟩, 56) := ⟨⟨by decide +kernel, by decide +kernel⟩, List.mem_of_getElem? (i := 1174) (by decide +kernel), List.mem_of_getElem? (i := 1672) (by decide +kernel), List.mem_of_getElem? (i := 1673) (by decide +kernel)⟩
theorem lw_p141 : lw_okq (⟨"RulerWordModel", "canSearch", "()Z"⟩, 56) := ⟨⟨by decide +kernel, by decide +kernel⟩, List.mem_of_getElem? (i := 1174) (by decide +kernel), List.mem_of_getElem? (i := 1683) (by decide +kernel), List.mem_of_getElem? (i := 1684) (by decide +kernel)⟩
theorem lw_p142 : lw_okq (⟨"RulerWordModel", "leastBroken", "()I"⟩, 56) := ⟨⟨by decide +kernel, by decide +kernel⟩, List.mem_of_getElem? (i := 1174) (by decide +kernel), List.mem_of_getElem? (i := 1687) (by decide +kernel), List.mem_of_getElem? (i := 1688) (by decide +kernel)⟩
theorem lw_p143 : lw_okq (⟨"RulerWordModel", "runsWhole", "(II)V"⟩, 56) := ⟨⟨by decide +kernel, by decide +kernel⟩, List.mem_of_getElem? (i := 1174) (by decide +kernel), List.mem_of_getElem? (i := 1691) (by decide +kernel), List.mem_of_getElem? (i := 1692) (by decide +kernel)⟩
def lw_privs_9 : List (MethodName × Nat) := [(⟨"RulerWordModel", "hearsRuler", "(II)V"⟩, 56), (⟨"RulerWordModel", "hearsOffers", "(I)V"⟩, 56), (⟨"RulerWordModel", "refuse", "(I)I"⟩, 56), (⟨"RulerWordModel", "isRound", "(II)Z"⟩, 56), (⟨"RulerWordModel", "isPeer", "(I)Z"⟩, 56), (⟨"RulerWordModel", "over", "()I"⟩, 56), (⟨"RulerWordModel", "areAgreedBehind", "(I)Z"⟩, 56), (⟨"RulerWordModel", "isTrue", "(I)Z"⟩, 56), (⟨"RulerWordModel", "heldBehind", "(II)I"⟩, 56), (⟨"RulerWordModel", "trueOnes", "(I)I"⟩, 56), (⟨"RulerWordModel", "isSomeStart", "(I)Z"⟩, 56), (⟨"RulerWordModel", "foretold", "(I)I"⟩, 56), (⟨"RulerWordModel", "freeIn", "(I)I"⟩, 56), (⟨"RulerWordModel", "canSearch", "()Z"⟩, 56), (⟨"RulerWordModel", "leastBroken", "()I"⟩, 56), (⟨"RulerWordModel", "runsWhole", "(II)V"⟩, 56)]
theorem lw_r9 : ∀ q ∈ lw_privs_9, lw_okq q := List.forall_mem_cons.mpr ⟨lw_p128, List.forall_mem_cons.mpr ⟨lw_p129, List.forall_mem_cons.mpr ⟨lw_p130, List.forall_mem_cons.mpr ⟨lw_p131, List.forall_mem_cons.mpr ⟨lw_p132, List.forall_mem_cons.mpr ⟨lw_p133, List.forall_mem_cons.mpr ⟨lw_p134, List.forall_mem_cons.mpr ⟨lw_p135, List.forall_mem_cons.mpr ⟨lw_p136, List.forall_mem_cons.mpr ⟨lw_p137, List.forall_mem_cons.mpr ⟨lw_p138, List.forall_mem_cons.mpr ⟨lw_p139, List.forall_mem_cons.mpr ⟨lw_p140, List.forall_mem_cons.mpr ⟨lw_p141, List.forall_mem_cons.mpr ⟨lw_p142, List.forall_mem_cons.mpr ⟨lw_p143, fun _ h => absurd h List.not_mem_nil⟩⟩⟩⟩⟩⟩⟩⟩⟩⟩⟩⟩⟩⟩⟩⟩
theorem lw_p144 : lw_okq (⟨"RulerWordModel", "areAgreed", "()Z"⟩, 56) := ⟨⟨by decide +kernel, by decide +kernel⟩, List.mem_of_getElem? (i := 1174) (by decide +kernel), List.mem_of_getElem? (i := 1695) (by decide +kernel), List.mem_of_getElem? (i := 1696) (by decide +kernel)⟩
theorem lw_p145 : lw_okq (⟨"RulerWordModel", "findsStarts", "()V"⟩, 56) := ⟨⟨by decide +kernel, by decide +kernel⟩, List.mem_of_getElem? (i := 1174) (by decide +kernel), List.mem_of_getElem? (i := 1703) (by decide +kernel), List.mem_of_getElem? (i := 1704) (by decide +kernel)⟩
theorem lw_p146 : lw_okq (⟨"RulerWordModel", "breaksSome", "()Z"⟩, 56) := ⟨⟨by decide +kernel, by decide +kernel⟩, List.mem_of_getElem? (i := 1174) (by decide +kernel), List.mem_of_getElem? (i := 1711) (by decide +kernel), List.mem_of_getElem? (i := 1712) (by decide +kernel)⟩
theorem lw_p147 : lw_okq (⟨"RulerWordModel", "writesPlan", "(I)V"⟩, 56) := ⟨⟨by decide +kernel, by decide +kernel⟩, List.mem_of_getElem? (i := 1174) (by decide +kernel), List.mem_of_getElem? (i := 1719) (by decide +kernel), List.mem_of_getElem? (i := 1720) (by decide +kernel)⟩
theorem lw_p148 : lw_okq (⟨"RulerWordModel", "writesWord", "(Ljava/lang/String;)V"⟩, 56) := ⟨⟨by decide +kernel, by decide +kernel⟩, List.mem_of_getElem? (i := 1174) (by decide +kernel), List.mem_of_getElem? (i := 1724) (by decide +kernel), List.mem_of_getElem? (i := 1725) (by decide +kernel)⟩
theorem lw_p149 : lw_okq (⟨"RulerWordModel", "writesDigit", "(I)V"⟩, 56) := ⟨⟨by decide +kernel, by decide +kernel⟩, List.mem_of_getElem? (i := 1174) (by decide +kernel), List.mem_of_getElem? (i := 1729) (by decide +kernel), List.mem_of_getElem? (i := 1730) (by decide +kernel)⟩
theorem lw_p150 : lw_okq (⟨"RulerWordModel", "trueOf", "(III)I"⟩, 56) := ⟨⟨by decide +kernel, by decide +kernel⟩, List.mem_of_getElem? (i := 1174) (by decide +kernel), List.mem_of_getElem? (i := 1745) (by decide +kernel), List.mem_of_getElem? (i := 1746) (by decide +kernel)⟩
theorem lw_p151 : lw_okq (⟨"RulerWordModel", "holders", "()I"⟩, 56) := ⟨⟨by decide +kernel, by decide +kernel⟩, List.mem_of_getElem? (i := 1174) (by decide +kernel), List.mem_of_getElem? (i := 1761) (by decide +kernel), List.mem_of_getElem? (i := 1762) (by decide +kernel)⟩
theorem lw_p152 : lw_okq (⟨"RulerWordModel", "showsWord", "(Ljava/lang/String;)V"⟩, 56) := ⟨⟨by decide +kernel, by decide +kernel⟩, List.mem_of_getElem? (i := 1174) (by decide +kernel), List.mem_of_getElem? (i := 1774) (by decide +kernel), List.mem_of_getElem? (i := 1775) (by decide +kernel)⟩
theorem lw_p153 : lw_okq (⟨"RulerWordModel", "shows", "(I)V"⟩, 56) := ⟨⟨by decide +kernel, by decide +kernel⟩, List.mem_of_getElem? (i := 1174) (by decide +kernel), List.mem_of_getElem? (i := 1778) (by decide +kernel), List.mem_of_getElem? (i := 1779) (by decide +kernel)⟩
theorem lw_p154 : lw_okq (⟨"RulerWordModel", "mostSuspecting", "(Z)I"⟩, 56) := ⟨⟨by decide +kernel, by decide +kernel⟩, List.mem_of_getElem? (i := 1174) (by decide +kernel), List.mem_of_getElem? (i := 1788) (by decide +kernel), List.mem_of_getElem? (i := 1789) (by decide +kernel)⟩
theorem lw_p155 : lw_okq (⟨"RulerWordModel", "changes", "()I"⟩, 56) := ⟨⟨by decide +kernel, by decide +kernel⟩, List.mem_of_getElem? (i := 1174) (by decide +kernel), List.mem_of_getElem? (i := 1792) (by decide +kernel), List.mem_of_getElem? (i := 1793) (by decide +kernel)⟩
def lw_privs_10 : List (MethodName × Nat) := [(⟨"RulerWordModel", "areAgreed", "()Z"⟩, 56), (⟨"RulerWordModel", "findsStarts", "()V"⟩, 56), (⟨"RulerWordModel", "breaksSome", "()Z"⟩, 56), (⟨"RulerWordModel", "writesPlan", "(I)V"⟩, 56), (⟨"RulerWordModel", "writesWord", "(Ljava/lang/String;)V"⟩, 56), (⟨"RulerWordModel", "writesDigit", "(I)V"⟩, 56), (⟨"RulerWordModel", "trueOf", "(III)I"⟩, 56), (⟨"RulerWordModel", "holders", "()I"⟩, 56), (⟨"RulerWordModel", "showsWord", "(Ljava/lang/String;)V"⟩, 56), (⟨"RulerWordModel", "shows", "(I)V"⟩, 56), (⟨"RulerWordModel", "mostSuspecting", "(Z)I"⟩, 56), (⟨"RulerWordModel", "changes", "()I"⟩, 56)]
theorem lw_r10 : ∀ q ∈ lw_privs_10, lw_okq q := List.forall_mem_cons.mpr ⟨lw_p144, List.forall_mem_cons.mpr ⟨lw_p145, List.forall_mem_cons.mpr ⟨lw_p146, List.forall_mem_cons.mpr ⟨lw_p147, List.forall_mem_cons.mpr ⟨lw_p148, List.forall_mem_cons.mpr ⟨lw_p149, List.forall_mem_cons.mpr ⟨lw_p150, List.forall_mem_cons.mpr ⟨lw_p151, List.forall_mem_cons.mpr ⟨lw_p152, List.forall_mem_cons.mpr ⟨lw_p153, List.forall_mem_cons.mpr ⟨lw_p154, List.forall_mem_cons.mpr ⟨lw_p155, fun _ h => absurd h List.not_mem_nil⟩⟩⟩⟩⟩⟩⟩⟩⟩⟩⟩⟩
def lw_privs : List (MethodName × Nat) := lw_privs_1 ++ (lw_privs_2 ++ (lw_privs_3 ++ (lw_privs_4 ++ (lw_privs_5 ++ (lw_privs_6 ++ (lw_privs_7 ++ (lw_privs_8 ++ (lw_privs_9 ++ (lw_privs_10)))))))))
def lw_tbl : List Cond := k2_sels lw_privs ++ tables_1
theorem lw_privs_ok : ∀ q ∈ lw_privs, lw_okq q := by
  show ∀ q ∈ lw_privs_1 ++ (lw_privs_2 ++ (lw_privs_3 ++ (lw_privs_4 ++ (lw_privs_5 ++ (lw_privs_6 ++ (lw_privs_7 ++ (lw_privs_8 ++ (lw_privs_9 ++ (lw_privs_10))))))))), lw_okq q
  exact List.forall_mem_append.mpr ⟨lw_r1, List.forall_mem_append.mpr ⟨lw_r2, List.forall_mem_append.mpr ⟨lw_r3, List.forall_mem_append.mpr ⟨lw_r4, List.forall_mem_append.mpr ⟨lw_r5, List.forall_mem_append.mpr ⟨lw_r6, List.forall_mem_append.mpr ⟨lw_r7, List.forall_mem_append.mpr ⟨lw_r8, List.forall_mem_append.mpr ⟨lw_r9, lw_r10⟩⟩⟩⟩⟩⟩⟩⟩⟩
end
section
def RX0 : String := "RulerWord$Acts"
def TX0 : u_T := fun k => match k with
  | 0 => ("RulerWord$Acts", "ahead", "[LRulerWord$Course;", true)
  | 1 => ("RulerWord$Acts", "newest", "I", false)
  | _ => ("RulerWord$Acts", "depth", "I", false)
def tyX0 : Nat → FieldType := fun k => match k with
  | 0 => .array (.object "RulerWord$Course")
  | 1 => .int
  | _ => .int
abbrev wsX00 : List Cond := u_ws RX0 TX0 3
theorem nmX0 : ∀ a, a < 3 → ∀ b, b < 3 → a ≠ b → (TX0 a).2.1 ≠ (TX0 b).2.1 := by decide +kernel
theorem tyX0_ok : ∀ k, k < 3 → parseFieldDescriptor (TX0 k).2.2.1 = some (tyX0 k) := by decide +kernel
abbrev cX0_init : ByteArray := prog_2_method_1_code
def yX0_init : MethodName := ⟨RX0, "<init>", "()V"⟩
abbrev cX0_keep : ByteArray := prog_2_method_2_code
def yX0_keep : MethodName := ⟨RX0, "keep", "(LRulerWord$Course;)V"⟩
abbrev cX0_takeBack : ByteArray := prog_2_method_3_code
def yX0_takeBack : MethodName := ⟨RX0, "takeBack", "(LRulerWord$Course;)Z"⟩
def RX1 : String := "RulerWord$Chance"
def TX1 : u_T := fun k => match k with
  | 0 => ("RulerWord$Voice", "phase", "I", false)
  | _ => ("RulerWord$Voice", "turn", "I", false)
def tyX1 : Nat → FieldType := fun k => match k with
  | 0 => .int
  | _ => .int
abbrev wsX10 : List Cond := u_ws RX1 TX1 2
theorem nmX1 : ∀ a, a < 2 → ∀ b, b < 2 → a ≠ b → (TX1 a).2.1 ≠ (TX1 b).2.1 := by decide +kernel
theorem tyX1_ok : ∀ k, k < 2 → parseFieldDescriptor (TX1 k).2.2.1 = some (tyX1 k) := by decide +kernel
abbrev cX1_init : ByteArray := prog_3_method_1_code
def yX1_init : MethodName := ⟨RX1, "<init>", "()V"⟩
abbrev cX1_choose : ByteArray := prog_3_method_2_code
def yX1_choose : MethodName := ⟨RX1, "choose", "(LRulerWord$Course;III)I"⟩
def RX2 : String := "RulerWord$Council"
def TX2 : u_T := fun k => match k with
  | 0 => ("RulerWord$Council", "form", "I", false)
  | 1 => ("RulerWord$Council", "size", "I", false)
  | 2 => ("RulerWord$Council", "bound", "I", false)
  | 3 => ("RulerWord$Council", "phases", "I", false)
  | 4 => ("RulerWord$Council", "starts", "I", false)
  | 5 => ("RulerWord$Council", "falses", "I", false)
  | 6 => ("RulerWord$Council", "skip", "Z", false)
  | _ => ("RulerWord$Council", "toldPieces", "I", false)
def tyX2 : Nat → FieldType := fun k => match k with
  | 0 => .int
  | 1 => .int
  | 2 => .int
  | 3 => .int
  | 4 => .int
  | 5 => .int
  | 6 => .boolean
  | _ => .int
abbrev wsX20 : List Cond := u_ws RX2 TX2 8
theorem nmX2 : ∀ a, a < 8 → ∀ b, b < 8 → a ≠ b → (TX2 a).2.1 ≠ (TX2 b).2.1 := by decide +kernel
theorem tyX2_ok : ∀ k, k < 8 → parseFieldDescriptor (TX2 k).2.2.1 = some (tyX2 k) := by decide +kernel
abbrev cX2_init : ByteArray := prog_4_method_1_code
def yX2_init : MethodName := ⟨RX2, "<init>", "()V"⟩
abbrev cX2_copy : ByteArray := prog_4_method_2_code
def yX2_copy : MethodName := ⟨RX2, "copy", "(LRulerWord$Council;)V"⟩
abbrev cX2_readFrom : ByteArray := prog_4_method_3_code
def yX2_readFrom : MethodName := ⟨RX2, "readFrom", "(LRulerWord$Tape;)I"⟩
abbrev cX2_clear : ByteArray := prog_4_method_4_code
def yX2_clear : MethodName := ⟨RX2, "clear", "()V"⟩
abbrev cX2_fillIn : ByteArray := prog_4_method_5_code
def yX2_fillIn : MethodName := ⟨RX2, "fillIn", "()V"⟩
abbrev cX2_isTold : ByteArray := prog_4_method_6_code
def yX2_isTold : MethodName := ⟨RX2, "isTold", "(I)Z"⟩
abbrev cX2_readPiece : ByteArray := prog_4_method_7_code
def yX2_readPiece : MethodName := ⟨RX2, "readPiece", "(LRulerWord$Tape;)Z"⟩
abbrev cX2_pieceOf : ByteArray := prog_4_method_8_code
def yX2_pieceOf : MethodName := ⟨RX2, "pieceOf", "(LRulerWord$Tape;)I"⟩
abbrev cX2_wordOf : ByteArray := prog_4_method_9_code
def yX2_wordOf : MethodName := ⟨RX2, "wordOf", "(I)Ljava/lang/String;"⟩
abbrev cX2_readStarts : ByteArray := prog_4_method_10_code
def yX2_readStarts : MethodName := ⟨RX2, "readStarts", "(LRulerWord$Tape;)Z"⟩
abbrev cX2_readFalses : ByteArray := prog_4_method_11_code
def yX2_readFalses : MethodName := ⟨RX2, "readFalses", "(LRulerWord$Tape;)Z"⟩
abbrev cX2_rounds : ByteArray := prog_4_method_12_code
def yX2_rounds : MethodName := ⟨RX2, "rounds", "()I"⟩
abbrev cX2_allRounds : ByteArray := prog_4_method_13_code
def yX2_allRounds : MethodName := ⟨RX2, "allRounds", "()I"⟩
abbrev cX2_phaseAt : ByteArray := prog_4_method_14_code
def yX2_phaseAt : MethodName := ⟨RX2, "phaseAt", "(I)I"⟩
abbrev cX2_turnAt : ByteArray := prog_4_method_15_code
def yX2_turnAt : MethodName := ⟨RX2, "turnAt", "(I)I"⟩
abbrev cX2_ruler : ByteArray := prog_4_method_16_code
def yX2_ruler : MethodName := ⟨RX2, "ruler", "(I)I"⟩
abbrev cX2_everybody : ByteArray := prog_4_method_17_code
def yX2_everybody : MethodName := ⟨RX2, "everybody", "()I"⟩
abbrev cX2_foretold : ByteArray := prog_4_method_18_code
def yX2_foretold : MethodName := ⟨RX2, "foretold", "()I"⟩
abbrev cX2_freeLetters : ByteArray := prog_4_method_19_code
def yX2_freeLetters : MethodName := ⟨RX2, "freeLetters", "(II)I"⟩
abbrev cX2_offer : ByteArray := prog_4_method_20_code
def yX2_offer : MethodName := ⟨RX2, "offer", "(II)I"⟩
abbrev cX2_view : ByteArray := prog_4_method_21_code
def yX2_view : MethodName := ⟨RX2, "view", "(II)I"⟩
def RX3 : String := "RulerWord$Course"
def TX3 : u_T := fun k => match k with
  | 0 => ("RulerWord$Course", "starts", "I", false)
  | 1 => ("RulerWord$Course", "falses", "I", false)
  | 2 => ("RulerWord$Course", "gone", "I", false)
  | 3 => ("RulerWord$Course", "holds", "I", false)
  | 4 => ("RulerWord$Course", "sent", "I", false)
  | 5 => ("RulerWord$Course", "sentByTrue", "I", false)
  | 6 => ("RulerWord$Course", "saidCount", "I", false)
  | 7 => ("RulerWord$Course", "suspects", "J", false)
  | 8 => ("RulerWord$Course", "draws", "J", false)
  | 9 => ("RulerWord$Course", "said", "[I", true)
  | 10 => ("RulerWord$Course", "rows", "[J", true)
  | 11 => ("RulerWord$Course", "ones", "[J", true)
  | 12 => ("RulerWord$Course", "nothings", "[J", true)
  | 13 => ("RulerWord$Course", "words", "[J", true)
  | 14 => ("RulerWord$Course", "behind", "[I", true)
  | 15 => ("RulerWord$Course", "firm", "[I", true)
  | 16 => ("RulerWord$Course", "took", "[I", true)
  | _ => ("RulerWord$Course", "sentIn", "[I", true)
def tyX3 : Nat → FieldType := fun k => match k with
  | 0 => .int
  | 1 => .int
  | 2 => .int
  | 3 => .int
  | 4 => .int
  | 5 => .int
  | 6 => .int
  | 7 => .long
  | 8 => .long
  | 9 => .array .int
  | 10 => .array .long
  | 11 => .array .long
  | 12 => .array .long
  | 13 => .array .long
  | 14 => .array .int
  | 15 => .array .int
  | 16 => .array .int
  | _ => .array .int
abbrev wsX30 : List Cond := u_ws RX3 TX3 18
theorem nmX3 : ∀ a, a < 18 → ∀ b, b < 18 → a ≠ b → (TX3 a).2.1 ≠ (TX3 b).2.1 := by decide +kernel
theorem tyX3_ok : ∀ k, k < 18 → parseFieldDescriptor (TX3 k).2.2.1 = some (tyX3 k) := by decide +kernel
abbrev cX3_init : ByteArray := prog_5_method_1_code
def yX3_init : MethodName := ⟨RX3, "<init>", "()V"⟩
abbrev cX3_begin : ByteArray := prog_5_method_2_code
def yX3_begin : MethodName := ⟨RX3, "begin", "(IIJ)V"⟩
abbrev cX3_copy : ByteArray := prog_5_method_3_code
def yX3_copy : MethodName := ⟨RX3, "copy", "(LRulerWord$Course;)V"⟩
abbrev cX3_placeOf : ByteArray := prog_5_method_4_code
def yX3_placeOf : MethodName := ⟨RX3, "placeOf", "(IIII)I"⟩
abbrev cX3_addSaid : ByteArray := prog_5_method_5_code
def yX3_addSaid : MethodName := ⟨RX3, "addSaid", "(IIIII)V"⟩
abbrev cX3_saidLetter : ByteArray := prog_5_method_6_code
def yX3_saidLetter : MethodName := ⟨RX3, "saidLetter", "(IIII)I"⟩
abbrev cX3_dropSaidByTrue : ByteArray := prog_5_method_7_code
def yX3_dropSaidByTrue : MethodName := ⟨RX3, "dropSaidByTrue", "()V"⟩
abbrev cX3_draw : ByteArray := prog_5_method_8_code
def yX3_draw : MethodName := ⟨RX3, "draw", "()I"⟩
abbrev cX3_play : ByteArray := prog_5_method_9_code
def yX3_play : MethodName := ⟨RX3, "play", "(LRulerWord$Council;LRulerWord$Voice;)V"⟩
abbrev cX3_send : ByteArray := prog_5_method_10_code
def yX3_send : MethodName := ⟨RX3, "send", "(LRulerWord$Council;LRulerWord$Voice;II)V"⟩
abbrev cX3_rowOf : ByteArray := prog_5_method_11_code
def yX3_rowOf : MethodName := ⟨RX3, "rowOf", "(LRulerWord$Council;LRulerWord$Voice;I)J"⟩
abbrev cX3_trueLetter : ByteArray := prog_5_method_12_code
def yX3_trueLetter : MethodName := ⟨RX3, "trueLetter", "(LRulerWord$Council;LRulerWord$Voice;I)I"⟩
abbrev cX3_reachedBy : ByteArray := prog_5_method_13_code
def yX3_reachedBy : MethodName := ⟨RX3, "reachedBy", "(JII)I"⟩
abbrev cX3_hearAll : ByteArray := prog_5_method_14_code
def yX3_hearAll : MethodName := ⟨RX3, "hearAll", "(LRulerWord$Council;II)V"⟩
abbrev cX3_takeView : ByteArray := prog_5_method_15_code
def yX3_takeView : MethodName := ⟨RX3, "takeView", "(LRulerWord$Council;III)V"⟩
abbrev cX3_hearRuler : ByteArray := prog_5_method_16_code
def yX3_hearRuler : MethodName := ⟨RX3, "hearRuler", "(LRulerWord$Council;II)V"⟩
abbrev cX3_trues : ByteArray := prog_5_method_17_code
def yX3_trues : MethodName := ⟨RX3, "trues", "(LRulerWord$Council;)I"⟩
abbrev cX3_letter : ByteArray := prog_5_method_18_code
def yX3_letter : MethodName := ⟨RX3, "letter", "(IIII)I"⟩
abbrev cX3_onesHeard : ByteArray := prog_5_method_19_code
def yX3_onesHeard : MethodName := ⟨RX3, "onesHeard", "(III)I"⟩
abbrev cX3_zerosHeard : ByteArray := prog_5_method_20_code
def yX3_zerosHeard : MethodName := ⟨RX3, "zerosHeard", "(LRulerWord$Council;III)I"⟩
abbrev cX3_waryOf : ByteArray := prog_5_method_21_code
def yX3_waryOf : MethodName := ⟨RX3, "waryOf", "(I)I"⟩
abbrev cX3_suspectedBy : ByteArray := prog_5_method_22_code
def yX3_suspectedBy : MethodName := ⟨RX3, "suspectedBy", "(I)I"⟩
abbrev cX3_alike : ByteArray := prog_5_method_23_code
def yX3_alike : MethodName := ⟨RX3, "alike", "(LRulerWord$Council;I)Z"⟩
abbrev cX3_agreedFrom : ByteArray := prog_5_method_24_code
def yX3_agreedFrom : MethodName := ⟨RX3, "agreedFrom", "(LRulerWord$Council;)I"⟩
abbrev cX3_crossedIn : ByteArray := prog_5_method_25_code
def yX3_crossedIn : MethodName := ⟨RX3, "crossedIn", "(LRulerWord$Council;I)I"⟩
def RX4 : String := "RulerWord$Free"
def TX4 : u_T := fun k => match k with
  | 0 => ("RulerWord$Voice", "phase", "I", false)
  | 1 => ("RulerWord$Voice", "turn", "I", false)
  | 2 => ("RulerWord$Free", "bits", "I", false)
  | _ => ("RulerWord$Free", "used", "I", false)
def tyX4 : Nat → FieldType := fun k => match k with
  | 0 => .int
  | 1 => .int
  | 2 => .int
  | _ => .int
abbrev wsX40 : List Cond := u_ws RX4 TX4 4
theorem nmX4 : ∀ a, a < 4 → ∀ b, b < 4 → a ≠ b → (TX4 a).2.1 ≠ (TX4 b).2.1 := by decide +kernel
theorem tyX4_ok : ∀ k, k < 4 → parseFieldDescriptor (TX4 k).2.2.1 = some (tyX4 k) := by decide +kernel
abbrev cX4_init : ByteArray := prog_6_method_1_code
def yX4_init : MethodName := ⟨RX4, "<init>", "()V"⟩
abbrev cX4_choose : ByteArray := prog_6_method_2_code
def yX4_choose : MethodName := ⟨RX4, "choose", "(LRulerWord$Course;III)I"⟩
def RX5 : String := "RulerWord$Plan"
def TX5 : u_T := fun k => match k with
  | 0 => ("RulerWord$Plan", "parts", "[I", true)
  | _ => ("RulerWord$Plan", "lines", "I", false)
def tyX5 : Nat → FieldType := fun k => match k with
  | 0 => .array .int
  | _ => .int
abbrev wsX50 : List Cond := u_ws RX5 TX5 2
theorem nmX5 : ∀ a, a < 2 → ∀ b, b < 2 → a ≠ b → (TX5 a).2.1 ≠ (TX5 b).2.1 := by decide +kernel
theorem tyX5_ok : ∀ k, k < 2 → parseFieldDescriptor (TX5 k).2.2.1 = some (tyX5 k) := by decide +kernel
abbrev cX5_init : ByteArray := prog_7_method_1_code
def yX5_init : MethodName := ⟨RX5, "<init>", "()V"⟩
abbrev cX5_copy : ByteArray := prog_7_method_2_code
def yX5_copy : MethodName := ⟨RX5, "copy", "(LRulerWord$Plan;)V"⟩
abbrev cX5_part : ByteArray := prog_7_method_3_code
def yX5_part : MethodName := ⟨RX5, "part", "(II)I"⟩
abbrev cX5_readFrom : ByteArray := prog_7_method_4_code
def yX5_readFrom : MethodName := ⟨RX5, "readFrom", "(LRulerWord$Tape;)I"⟩
abbrev cX5_readLine : ByteArray := prog_7_method_5_code
def yX5_readLine : MethodName := ⟨RX5, "readLine", "(LRulerWord$Tape;I)Z"⟩
abbrev cX5_wordOf : ByteArray := prog_7_method_6_code
def yX5_wordOf : MethodName := ⟨RX5, "wordOf", "(I)Ljava/lang/String;"⟩
abbrev cX5_greatestOf : ByteArray := prog_7_method_7_code
def yX5_greatestOf : MethodName := ⟨RX5, "greatestOf", "(I)I"⟩
abbrev cX5_actOf : ByteArray := prog_7_method_8_code
def yX5_actOf : MethodName := ⟨RX5, "actOf", "(LRulerWord$Tape;)I"⟩
abbrev cX5_actFor : ByteArray := prog_7_method_9_code
def yX5_actFor : MethodName := ⟨RX5, "actFor", "(IIII)I"⟩
def RX6 : String := "RulerWord$Planned"
def TX6 : u_T := fun k => match k with
  | 0 => ("RulerWord$Voice", "phase", "I", false)
  | 1 => ("RulerWord$Voice", "turn", "I", false)
  | _ => ("RulerWord$Planned", "plan", "LRulerWord$Plan;", true)
def tyX6 : Nat → FieldType := fun k => match k with
  | 0 => .int
  | 1 => .int
  | _ => .object "RulerWord$Plan"
abbrev wsX60 : List Cond := u_ws RX6 TX6 3
theorem nmX6 : ∀ a, a < 3 → ∀ b, b < 3 → a ≠ b → (TX6 a).2.1 ≠ (TX6 b).2.1 := by decide +kernel
theorem tyX6_ok : ∀ k, k < 3 → parseFieldDescriptor (TX6 k).2.2.1 = some (tyX6 k) := by decide +kernel
abbrev cX6_init : ByteArray := prog_8_method_1_code
def yX6_init : MethodName := ⟨RX6, "<init>", "()V"⟩
abbrev cX6_choose : ByteArray := prog_8_method_2_code
def yX6_choose : MethodName := ⟨RX6, "choose", "(LRulerWord$Course;III)I"⟩
def RX7 : String := "RulerWord$Search"
def TX7 : u_T := fun k => match k with
  | 0 => ("RulerWord$Search", "rules", "LRulerWord$Council;", true)
  | 1 => ("RulerWord$Search", "receivers", "[I", true)
  | 2 => ("RulerWord$Search", "freeAhead", "[I", true)
  | 3 => ("RulerWord$Search", "outcomes", "[I", true)
  | 4 => ("RulerWord$Search", "lies", "[I", true)
  | 5 => ("RulerWord$Search", "sound", "[J", true)
  | 6 => ("RulerWord$Search", "breaks", "I", false)
  | 7 => ("RulerWord$Search", "phases", "I", false)
  | 8 => ("RulerWord$Search", "falses", "I", false)
  | 9 => ("RulerWord$Search", "trues", "I", false)
  | 10 => ("RulerWord$Search", "many", "I", false)
  | 11 => ("RulerWord$Search", "liars", "I", false)
  | 12 => ("RulerWord$Search", "found", "I", false)
  | _ => ("RulerWord$Search", "anyWillDo", "Z", false)
def tyX7 : Nat → FieldType := fun k => match k with
  | 0 => .object "RulerWord$Council"
  | 1 => .array .int
  | 2 => .array .int
  | 3 => .array .int
  | 4 => .array .int
  | 5 => .array .long
  | 6 => .int
  | 7 => .int
  | 8 => .int
  | 9 => .int
  | 10 => .int
  | 11 => .int
  | 12 => .int
  | _ => .boolean
abbrev wsX70 : List Cond := u_ws RX7 TX7 14
theorem nmX7 : ∀ a, a < 14 → ∀ b, b < 14 → a ≠ b → (TX7 a).2.1 ≠ (TX7 b).2.1 := by decide +kernel
theorem tyX7_ok : ∀ k, k < 14 → parseFieldDescriptor (TX7 k).2.2.1 = some (tyX7 k) := by decide +kernel
abbrev cX7_init : ByteArray := prog_9_method_1_code
def yX7_init : MethodName := ⟨RX7, "<init>", "()V"⟩
abbrev cX7_prepare : ByteArray := prog_9_method_2_code
def yX7_prepare : MethodName := ⟨RX7, "prepare", "(LRulerWord$Council;II)V"⟩
abbrev cX7_least : ByteArray := prog_9_method_3_code
def yX7_least : MethodName := ⟨RX7, "least", "(I)I"⟩
abbrev cX7_isBroken : ByteArray := prog_9_method_4_code
def yX7_isBroken : MethodName := ⟨RX7, "isBroken", "(I)Z"⟩
abbrev cX7_isEnough : ByteArray := prog_9_method_5_code
def yX7_isEnough : MethodName := ⟨RX7, "isEnough", "()Z"⟩
abbrev cX7_explore : ByteArray := prog_9_method_6_code
def yX7_explore : MethodName := ⟨RX7, "explore", "(IIJI)V"⟩
abbrev cX7_judge : ByteArray := prog_9_method_7_code
def yX7_judge : MethodName := ⟨RX7, "judge", "(II)V"⟩
abbrev cX7_tryOffers : ByteArray := prog_9_method_8_code
def yX7_tryOffers : MethodName := ⟨RX7, "tryOffers", "(IIJI)V"⟩
abbrev cX7_wordOf : ByteArray := prog_9_method_9_code
def yX7_wordOf : MethodName := ⟨RX7, "wordOf", "(II)I"⟩
abbrev cX7_tryViews : ByteArray := prog_9_method_10_code
def yX7_tryViews : MethodName := ⟨RX7, "tryViews", "(IIJII)V"⟩
abbrev cX7_seen : ByteArray := prog_9_method_11_code
def yX7_seen : MethodName := ⟨RX7, "seen", "(III)I"⟩
abbrev cX7_tryRuler : ByteArray := prog_9_method_12_code
def yX7_tryRuler : MethodName := ⟨RX7, "tryRuler", "(IIIJI)V"⟩
abbrev cX7_doesSuspicionCount : ByteArray := prog_9_method_13_code
def yX7_doesSuspicionCount : MethodName := ⟨RX7, "doesSuspicionCount", "(I)Z"⟩
abbrev cX7_spread : ByteArray := prog_9_method_14_code
def yX7_spread : MethodName := ⟨RX7, "spread", "(I)I"⟩
abbrev cX7_addChoice : ByteArray := prog_9_method_15_code
def yX7_addChoice : MethodName := ⟨RX7, "addChoice", "(IIII)I"⟩
abbrev cX7_power : ByteArray := prog_9_method_16_code
def yX7_power : MethodName := ⟨RX7, "power", "(I)I"⟩
abbrev cX7_bitsOf : ByteArray := prog_9_method_17_code
def yX7_bitsOf : MethodName := ⟨RX7, "bitsOf", "(II)I"⟩
def RX8 : String := "RulerWord$Tape"
def TX8 : u_T := fun k => match k with
  | 0 => ("RulerWord$Tape", "bytes", "[I", true)
  | 1 => ("RulerWord$Tape", "length", "I", false)
  | 2 => ("RulerWord$Tape", "at", "I", false)
  | 3 => ("RulerWord$Tape", "behind", "I", false)
  | _ => ("RulerWord$Tape", "kind", "I", false)
def tyX8 : Nat → FieldType := fun k => match k with
  | 0 => .array .int
  | 1 => .int
  | 2 => .int
  | 3 => .int
  | _ => .int
abbrev wsX80 : List Cond := u_ws RX8 TX8 5
theorem nmX8 : ∀ a, a < 5 → ∀ b, b < 5 → a ≠ b → (TX8 a).2.1 ≠ (TX8 b).2.1 := by decide +kernel
theorem tyX8_ok : ∀ k, k < 5 → parseFieldDescriptor (TX8 k).2.2.1 = some (tyX8 k) := by decide +kernel
abbrev cX8_init : ByteArray := prog_10_method_1_code
def yX8_init : MethodName := ⟨RX8, "<init>", "()V"⟩
abbrev cX8_put : ByteArray := prog_10_method_2_code
def yX8_put : MethodName := ⟨RX8, "put", "(I)V"⟩
abbrev cX8_add : ByteArray := prog_10_method_3_code
def yX8_add : MethodName := ⟨RX8, "add", "(I)V"⟩
abbrev cX8_write : ByteArray := prog_10_method_4_code
def yX8_write : MethodName := ⟨RX8, "write", "(Ljava/lang/String;)V"⟩
abbrev cX8_writeNumber : ByteArray := prog_10_method_5_code
def yX8_writeNumber : MethodName := ⟨RX8, "writeNumber", "(Ljava/lang/String;I)V"⟩
abbrev cX8_firstPart : ByteArray := prog_10_method_6_code
def yX8_firstPart : MethodName := ⟨RX8, "firstPart", "()V"⟩
abbrev cX8_nextPart : ByteArray := prog_10_method_7_code
def yX8_nextPart : MethodName := ⟨RX8, "nextPart", "()V"⟩
abbrev cX8_kindOf : ByteArray := prog_10_method_8_code
def yX8_kindOf : MethodName := ⟨RX8, "kindOf", "(I)I"⟩
abbrev cX8_isWord : ByteArray := prog_10_method_9_code
def yX8_isWord : MethodName := ⟨RX8, "isWord", "(Ljava/lang/String;)Z"⟩
abbrev cX8_digits : ByteArray := prog_10_method_10_code
def yX8_digits : MethodName := ⟨RX8, "digits", "()I"⟩
abbrev cX8_digitAt : ByteArray := prog_10_method_11_code
def yX8_digitAt : MethodName := ⟨RX8, "digitAt", "(I)I"⟩
abbrev cX8_number : ByteArray := prog_10_method_12_code
def yX8_number : MethodName := ⟨RX8, "number", "(II)I"⟩
def RX9 : String := "RulerWord$Voice"
def TX9 : u_T := fun k => match k with
  | _ => ("", "", "", false)
def tyX9 : Nat → FieldType := fun k => match k with
  | _ => .int
abbrev wsX90 : List Cond := u_ws RX9 TX9 0
theorem nmX9 : ∀ a, a < 0 → ∀ b, b < 0 → a ≠ b → (TX9 a).2.1 ≠ (TX9 b).2.1 := by decide +kernel
theorem tyX9_ok : ∀ k, k < 0 → parseFieldDescriptor (TX9 k).2.2.1 = some (tyX9 k) := by decide +kernel
abbrev cX9_init : ByteArray := prog_11_method_1_code
def yX9_init : MethodName := ⟨RX9, "<init>", "()V"⟩
def RX10 : String := "RulerWord"
def TX10 : u_T := fun k => match k with
  | 0 => ("RulerWord", "tape", "LRulerWord$Tape;", true)
  | 1 => ("RulerWord", "draft", "LRulerWord$Council;", true)
  | 2 => ("RulerWord", "council", "LRulerWord$Council;", true)
  | 3 => ("RulerWord", "others", "LRulerWord$Council;", true)
  | 4 => ("RulerWord", "draftPlan", "LRulerWord$Plan;", true)
  | 5 => ("RulerWord", "planned", "LRulerWord$Planned;", true)
  | 6 => ("RulerWord", "chance", "LRulerWord$Chance;", true)
  | 7 => ("RulerWord", "freely", "LRulerWord$Free;", true)
  | 8 => ("RulerWord", "now", "LRulerWord$Course;", true)
  | 9 => ("RulerWord", "kept", "LRulerWord$Course;", true)
  | 10 => ("RulerWord", "trial", "LRulerWord$Course;", true)
  | 11 => ("RulerWord", "acts", "LRulerWord$Acts;", true)
  | 12 => ("RulerWord", "search", "LRulerWord$Search;", true)
  | 13 => ("RulerWord", "text", "LRulerWord$Tape;", true)
  | 14 => ("RulerWord", "refused", "[I", true)
  | 15 => ("RulerWord", "convened", "Z", false)
  | 16 => ("RulerWord", "imaged", "Z", false)
  | _ => ("RulerWord", "seed", "J", false)
def tyX10 : Nat → FieldType := fun k => match k with
  | 0 => .object "RulerWord$Tape"
  | 1 => .object "RulerWord$Council"
  | 2 => .object "RulerWord$Council"
  | 3 => .object "RulerWord$Council"
  | 4 => .object "RulerWord$Plan"
  | 5 => .object "RulerWord$Planned"
  | 6 => .object "RulerWord$Chance"
  | 7 => .object "RulerWord$Free"
  | 8 => .object "RulerWord$Course"
  | 9 => .object "RulerWord$Course"
  | 10 => .object "RulerWord$Course"
  | 11 => .object "RulerWord$Acts"
  | 12 => .object "RulerWord$Search"
  | 13 => .object "RulerWord$Tape"
  | 14 => .array .int
  | 15 => .boolean
  | 16 => .boolean
  | _ => .long
abbrev wsX100 : List Cond := u_ws RX10 TX10 18
theorem nmX10 : ∀ a, a < 18 → ∀ b, b < 18 → a ≠ b → (TX10 a).2.1 ≠ (TX10 b).2.1 := by decide +kernel
theorem tyX10_ok : ∀ k, k < 18 → parseFieldDescriptor (TX10 k).2.2.1 = some (tyX10 k) := by decide +kernel
abbrev cX10_init : ByteArray := prog_1_method_1_code
def yX10_init : MethodName := ⟨RX10, "<init>", "()V"⟩
abbrev cX10_feed : ByteArray := prog_1_method_2_code
def yX10_feed : MethodName := ⟨RX10, "feed", "(IIIII)I"⟩
abbrev cX10_end : ByteArray := prog_1_method_3_code
def yX10_end : MethodName := ⟨RX10, "end", "(I)Z"⟩
abbrev cX10_fault : ByteArray := prog_1_method_4_code
def yX10_fault : MethodName := ⟨RX10, "fault", "(I)I"⟩
abbrev cX10_council : ByteArray := prog_1_method_5_code
def yX10_council : MethodName := ⟨RX10, "council", "(J)I"⟩
abbrev cX10_plan : ByteArray := prog_1_method_6_code
def yX10_plan : MethodName := ⟨RX10, "plan", "()I"⟩
abbrev cX10_rule : ByteArray := prog_1_method_7_code
def yX10_rule : MethodName := ⟨RX10, "rule", "(I)I"⟩
abbrev cX10_line : ByteArray := prog_1_method_8_code
def yX10_line : MethodName := ⟨RX10, "line", "(II)I"⟩
abbrev cX10_round : ByteArray := prog_1_method_9_code
def yX10_round : MethodName := ⟨RX10, "round", "()I"⟩
abbrev cX10_run : ByteArray := prog_1_method_10_code
def yX10_run : MethodName := ⟨RX10, "run", "()I"⟩
abbrev cX10_say : ByteArray := prog_1_method_11_code
def yX10_say : MethodName := ⟨RX10, "say", "(IIIII)I"⟩
abbrev cX10_starts : ByteArray := prog_1_method_12_code
def yX10_starts : MethodName := ⟨RX10, "starts", "(I)I"⟩
abbrev cX10_falseOnes : ByteArray := prog_1_method_13_code
def yX10_falseOnes : MethodName := ⟨RX10, "falseOnes", "(I)I"⟩
abbrev cX10_heard : ByteArray := prog_1_method_14_code
def yX10_heard : MethodName := ⟨RX10, "heard", "(IIII)I"⟩
abbrev cX10_peer : ByteArray := prog_1_method_15_code
def yX10_peer : MethodName := ⟨RX10, "peer", "(II)I"⟩
abbrev cX10_told : ByteArray := prog_1_method_16_code
def yX10_told : MethodName := ⟨RX10, "told", "(III)I"⟩
abbrev cX10_agreed : ByteArray := prog_1_method_17_code
def yX10_agreed : MethodName := ⟨RX10, "agreed", "()I"⟩
abbrev cX10_state : ByteArray := prog_1_method_18_code
def yX10_state : MethodName := ⟨RX10, "state", "(I)I"⟩
abbrev cX10_letters : ByteArray := prog_1_method_19_code
def yX10_letters : MethodName := ⟨RX10, "letters", "(I)I"⟩
abbrev cX10_trueRuler : ByteArray := prog_1_method_20_code
def yX10_trueRuler : MethodName := ⟨RX10, "trueRuler", "()I"⟩
abbrev cX10_greatest : ByteArray := prog_1_method_21_code
def yX10_greatest : MethodName := ⟨RX10, "greatest", "(II)I"⟩
abbrev cX10_free : ByteArray := prog_1_method_22_code
def yX10_free : MethodName := ⟨RX10, "free", "()I"⟩
abbrev cX10_broken : ByteArray := prog_1_method_23_code
def yX10_broken : MethodName := ⟨RX10, "broken", "()I"⟩
abbrev cX10_brokenStarts : ByteArray := prog_1_method_24_code
def yX10_brokenStarts : MethodName := ⟨RX10, "brokenStarts", "(I)I"⟩
abbrev cX10_canBreak : ByteArray := prog_1_method_25_code
def yX10_canBreak : MethodName := ⟨RX10, "canBreak", "(I)I"⟩
abbrev cX10_brokenPlan : ByteArray := prog_1_method_26_code
def yX10_brokenPlan : MethodName := ⟨RX10, "brokenPlan", "(I)I"⟩
abbrev cX10_weakest : ByteArray := prog_1_method_27_code
def yX10_weakest : MethodName := ⟨RX10, "weakest", "()I"⟩
abbrev cX10_ruled : ByteArray := prog_1_method_28_code
def yX10_ruled : MethodName := ⟨RX10, "ruled", "(II)I"⟩
abbrev cX10_held : ByteArray := prog_1_method_29_code
def yX10_held : MethodName := ⟨RX10, "held", "(II)I"⟩
abbrev cX10_needed : ByteArray := prog_1_method_30_code
def yX10_needed : MethodName := ⟨RX10, "needed", "()I"⟩
abbrev cX10_asOthers : ByteArray := prog_1_method_31_code
def yX10_asOthers : MethodName := ⟨RX10, "asOthers", "(I)I"⟩
abbrev cX10_byChance : ByteArray := prog_1_method_32_code
def yX10_byChance : MethodName := ⟨RX10, "byChance", "(IJI)I"⟩
abbrev cX10_shown : ByteArray := prog_1_method_33_code
def yX10_shown : MethodName := ⟨RX10, "shown", "(II)I"⟩
abbrev cX10_undo : ByteArray := prog_1_method_34_code
def yX10_undo : MethodName := ⟨RX10, "undo", "()I"⟩
abbrev cX10_image : ByteArray := prog_1_method_35_code
def yX10_image : MethodName := ⟨RX10, "image", "()I"⟩
abbrev cX10_back : ByteArray := prog_1_method_36_code
def yX10_back : MethodName := ⟨RX10, "back", "()I"⟩
abbrev cX10_status : ByteArray := prog_1_method_37_code
def yX10_status : MethodName := ⟨RX10, "status", "(I)I"⟩
abbrev cX10_most : ByteArray := prog_1_method_38_code
def yX10_most : MethodName := ⟨RX10, "most", "(I)I"⟩
abbrev cX10_count : ByteArray := prog_1_method_39_code
def yX10_count : MethodName := ⟨RX10, "count", "(I)I"⟩
abbrev cX10_bit : ByteArray := prog_1_method_40_code
def yX10_bit : MethodName := ⟨RX10, "bit", "(II)I"⟩
abbrev cX10_nibble : ByteArray := prog_1_method_41_code
def yX10_nibble : MethodName := ⟨RX10, "nibble", "(JI)I"⟩
abbrev cX10_greatestBound : ByteArray := prog_1_method_42_code
def yX10_greatestBound : MethodName := ⟨RX10, "greatestBound", "(II)I"⟩
abbrev cX10_isPeer : ByteArray := prog_1_method_43_code
def yX10_isPeer : MethodName := ⟨RX10, "isPeer", "(I)Z"⟩
abbrev cX10_isRound : ByteArray := prog_1_method_44_code
def yX10_isRound : MethodName := ⟨RX10, "isRound", "(II)Z"⟩
abbrev cX10_isGone : ByteArray := prog_1_method_45_code
def yX10_isGone : MethodName := ⟨RX10, "isGone", "(II)Z"⟩
abbrev cX10_phasesOver : ByteArray := prog_1_method_46_code
def yX10_phasesOver : MethodName := ⟨RX10, "phasesOver", "()I"⟩
abbrev cX10_isOver : ByteArray := prog_1_method_47_code
def yX10_isOver : MethodName := ⟨RX10, "isOver", "(I)Z"⟩
abbrev cX10_roundsLeft : ByteArray := prog_1_method_48_code
def yX10_roundsLeft : MethodName := ⟨RX10, "roundsLeft", "()I"⟩
abbrev cX10_playTrial : ByteArray := prog_1_method_49_code
def yX10_playTrial : MethodName := ⟨RX10, "playTrial", "(LRulerWord$Council;LRulerWord$Voice;J)V"⟩
abbrev cX10_refuse : ByteArray := prog_1_method_50_code
def yX10_refuse : MethodName := ⟨RX10, "refuse", "(I)I"⟩
abbrev cX10_whyNotSaid : ByteArray := prog_1_method_51_code
def yX10_whyNotSaid : MethodName := ⟨RX10, "whyNotSaid", "(IIIII)I"⟩
abbrev cX10_whyNotTold : ByteArray := prog_1_method_52_code
def yX10_whyNotTold : MethodName := ⟨RX10, "whyNotTold", "(II)I"⟩
abbrev cX10_isSomeStart : ByteArray := prog_1_method_53_code
def yX10_isSomeStart : MethodName := ⟨RX10, "isSomeStart", "(I)Z"⟩
abbrev cX10_freeWith : ByteArray := prog_1_method_54_code
def yX10_freeWith : MethodName := ⟨RX10, "freeWith", "(I)I"⟩
abbrev cX10_isAsked : ByteArray := prog_1_method_55_code
def yX10_isAsked : MethodName := ⟨RX10, "isAsked", "(I)Z"⟩
abbrev cX10_countBrokenStarts : ByteArray := prog_1_method_56_code
def yX10_countBrokenStarts : MethodName := ⟨RX10, "countBrokenStarts", "(I)I"⟩
abbrev cX10_leastBrokenStart : ByteArray := prog_1_method_57_code
def yX10_leastBrokenStart : MethodName := ⟨RX10, "leastBrokenStart", "(I)I"⟩
abbrev cX10_writeBrokenRound : ByteArray := prog_1_method_58_code
def yX10_writeBrokenRound : MethodName := ⟨RX10, "writeBrokenRound", "(III)V"⟩
abbrev cX10_freeBefore : ByteArray := prog_1_method_59_code
def yX10_freeBefore : MethodName := ⟨RX10, "freeBefore", "(II)I"⟩
abbrev cX10_byteOfText : ByteArray := prog_1_method_60_code
def yX10_byteOfText : MethodName := ⟨RX10, "byteOfText", "(I)I"⟩
abbrev cX10_ruledIn : ByteArray := prog_1_method_61_code
def yX10_ruledIn : MethodName := ⟨RX10, "ruledIn", "(III)I"⟩
abbrev cX10_reachedByRuler : ByteArray := prog_1_method_62_code
def yX10_reachedByRuler : MethodName := ⟨RX10, "reachedByRuler", "(II)I"⟩
abbrev cX10_mostWary : ByteArray := prog_1_method_63_code
def yX10_mostWary : MethodName := ⟨RX10, "mostWary", "()I"⟩
abbrev cX10_mostSuspected : ByteArray := prog_1_method_64_code
def yX10_mostSuspected : MethodName := ⟨RX10, "mostSuspected", "()I"⟩
abbrev cX10_phasesInDoubt : ByteArray := prog_1_method_65_code
def yX10_phasesInDoubt : MethodName := ⟨RX10, "phasesInDoubt", "()I"⟩
abbrev cX10_changesOfTrueOnes : ByteArray := prog_1_method_66_code
def yX10_changesOfTrueOnes : MethodName := ⟨RX10, "changesOfTrueOnes", "()I"⟩
abbrev cX10_mostObedientPhase : ByteArray := prog_1_method_67_code
def yX10_mostObedientPhase : MethodName := ⟨RX10, "mostObedientPhase", "()I"⟩
def RX11 : String := "RulerWordModel"
def TX11 : u_T := fun k => match k with
  | 0 => ("RulerWordModel", "thrown", "I", false)
  | 1 => ("RulerWordModel", "tape", "[B", true)
  | 2 => ("RulerWordModel", "length", "I", false)
  | 3 => ("RulerWordModel", "at", "I", false)
  | 4 => ("RulerWordModel", "fault", "I", false)
  | 5 => ("RulerWordModel", "rowFrom", "I", false)
  | 6 => ("RulerWordModel", "rowLong", "I", false)
  | 7 => ("RulerWordModel", "read", "[I", true)
  | 8 => ("RulerWordModel", "formRead", "I", false)
  | 9 => ("RulerWordModel", "toldRead", "I", false)
  | 10 => ("RulerWordModel", "line", "[I", true)
  | 11 => ("RulerWordModel", "lineRead", "[I", true)
  | 12 => ("RulerWordModel", "lines", "I", false)
  | 13 => ("RulerWordModel", "linesRead", "I", false)
  | 14 => ("RulerWordModel", "form", "I", false)
  | 15 => ("RulerWordModel", "n", "I", false)
  | 16 => ("RulerWordModel", "bound", "I", false)
  | 17 => ("RulerWordModel", "phases", "I", false)
  | 18 => ("RulerWordModel", "skip", "I", false)
  | 19 => ("RulerWordModel", "starts", "I", false)
  | 20 => ("RulerWordModel", "liars", "I", false)
  | 21 => ("RulerWordModel", "seed", "J", false)
  | 22 => ("RulerWordModel", "x", "J", false)
  | 23 => ("RulerWordModel", "hasCouncil", "Z", false)
  | 24 => ("RulerWordModel", "said", "[I", true)
  | 25 => ("RulerWordModel", "saids", "I", false)
  | 26 => ("RulerWordModel", "hold", "[I", true)
  | 27 => ("RulerWordModel", "suspects", "[I", true)
  | 28 => ("RulerWordModel", "lean", "[I", true)
  | 29 => ("RulerWordModel", "zeros", "[I", true)
  | 30 => ("RulerWordModel", "ones", "[I", true)
  | 31 => ("RulerWordModel", "zerosThen", "[I", true)
  | 32 => ("RulerWordModel", "onesThen", "[I", true)
  | 33 => ("RulerWordModel", "square", "[I", true)
  | 34 => ("RulerWordModel", "firm", "[Z", true)
  | 35 => ("RulerWordModel", "took", "[Z", true)
  | 36 => ("RulerWordModel", "gone", "I", false)
  | 37 => ("RulerWordModel", "sent", "I", false)
  | 38 => ("RulerWordModel", "sentByTrue", "I", false)
  | 39 => ("RulerWordModel", "source", "I", false)
  | 40 => ("RulerWordModel", "bits", "I", false)
  | 41 => ("RulerWordModel", "now", "[I", true)
  | 42 => ("RulerWordModel", "image", "[I", true)
  | 43 => ("RulerWordModel", "kept", "[I", true)
  | 44 => ("RulerWordModel", "keptDraw", "[J", true)
  | 45 => ("RulerWordModel", "drawNow", "J", false)
  | 46 => ("RulerWordModel", "imageDraw", "J", false)
  | 47 => ("RulerWordModel", "acts", "I", false)
  | 48 => ("RulerWordModel", "hasImage", "Z", false)
  | 49 => ("RulerWordModel", "refused", "[I", true)
  | 50 => ("RulerWordModel", "leastStart", "I", false)
  | 51 => ("RulerWordModel", "startsMany", "I", false)
  | 52 => ("RulerWordModel", "written", "[I", true)
  | 53 => ("RulerWordModel", "writes", "I", false)
  | 54 => ("RulerWordModel", "shown", "[I", true)
  | _ => ("RulerWordModel", "shows", "I", false)
def tyX11 : Nat → FieldType := fun k => match k with
  | 0 => .int
  | 1 => .array .byte
  | 2 => .int
  | 3 => .int
  | 4 => .int
  | 5 => .int
  | 6 => .int
  | 7 => .array .int
  | 8 => .int
  | 9 => .int
  | 10 => .array .int
  | 11 => .array .int
  | 12 => .int
  | 13 => .int
  | 14 => .int
  | 15 => .int
  | 16 => .int
  | 17 => .int
  | 18 => .int
  | 19 => .int
  | 20 => .int
  | 21 => .long
  | 22 => .long
  | 23 => .boolean
  | 24 => .array .int
  | 25 => .int
  | 26 => .array .int
  | 27 => .array .int
  | 28 => .array .int
  | 29 => .array .int
  | 30 => .array .int
  | 31 => .array .int
  | 32 => .array .int
  | 33 => .array .int
  | 34 => .array .boolean
  | 35 => .array .boolean
  | 36 => .int
  | 37 => .int
  | 38 => .int
  | 39 => .int
  | 40 => .int
  | 41 => .array .int
  | 42 => .array .int
  | 43 => .array .int
  | 44 => .array .long
  | 45 => .long
  | 46 => .long
  | 47 => .int
  | 48 => .boolean
  | 49 => .array .int
  | 50 => .int
  | 51 => .int
  | 52 => .array .int
  | 53 => .int
  | 54 => .array .int
  | _ => .int
abbrev wsX110 : List Cond := u_ws RX11 TX11 56
theorem nmX11 : ∀ a, a < 56 → ∀ b, b < 56 → a ≠ b → (TX11 a).2.1 ≠ (TX11 b).2.1 := by decide +kernel
theorem tyX11_ok : ∀ k, k < 56 → parseFieldDescriptor (TX11 k).2.2.1 = some (tyX11 k) := by decide +kernel
abbrev cX11_init : ByteArray := prog_13_method_1_code
def yX11_init : MethodName := ⟨RX11, "<init>", "()V"⟩
abbrev cX11_thrown : ByteArray := prog_13_method_2_code
def yX11_thrown : MethodName := ⟨RX11, "thrown", "()I"⟩
abbrev cX11_isIn : ByteArray := prog_13_method_3_code
def yX11_isIn : MethodName := ⟨RX11, "isIn", "(JJJ)Z"⟩
abbrev cX11_has : ByteArray := prog_13_method_4_code
def yX11_has : MethodName := ⟨RX11, "has", "(II)Z"⟩
abbrev cX11_bitsIn : ByteArray := prog_13_method_5_code
def yX11_bitsIn : MethodName := ⟨RX11, "bitsIn", "(I)I"⟩
abbrev cX11_bytesOf : ByteArray := prog_13_method_6_code
def yX11_bytesOf : MethodName := ⟨RX11, "bytesOf", "(I)I"⟩
abbrev cX11_brings : ByteArray := prog_13_method_7_code
def yX11_brings : MethodName := ⟨RX11, "brings", "(I)V"⟩
abbrev cX11_feed : ByteArray := prog_13_method_8_code
def yX11_feed : MethodName := ⟨RX11, "feed", "(IIIII)I"⟩
abbrev cX11_end : ByteArray := prog_13_method_9_code
def yX11_end : MethodName := ⟨RX11, "end", "(I)Z"⟩
abbrev cX11_here : ByteArray := prog_13_method_10_code
def yX11_here : MethodName := ⟨RX11, "here", "()I"⟩
abbrev cX11_look : ByteArray := prog_13_method_11_code
def yX11_look : MethodName := ⟨RX11, "look", "()I"⟩
abbrev cX11_fails : ByteArray := prog_13_method_12_code
def yX11_fails : MethodName := ⟨RX11, "fails", "(I)V"⟩
abbrev cX11_isDigit : ByteArray := prog_13_method_13_code
def yX11_isDigit : MethodName := ⟨RX11, "isDigit", "(I)Z"⟩
abbrev cX11_takes : ByteArray := prog_13_method_14_code
def yX11_takes : MethodName := ⟨RX11, "takes", "(Ljava/lang/String;)Z"⟩
abbrev cX11_digits : ByteArray := prog_13_method_15_code
def yX11_digits : MethodName := ⟨RX11, "digits", "()V"⟩
abbrev cX11_digitAt : ByteArray := prog_13_method_16_code
def yX11_digitAt : MethodName := ⟨RX11, "digitAt", "(I)I"⟩
abbrev cX11_digit : ByteArray := prog_13_method_17_code
def yX11_digit : MethodName := ⟨RX11, "digit", "(II)I"⟩
abbrev cX11_pieceHere : ByteArray := prog_13_method_18_code
def yX11_pieceHere : MethodName := ⟨RX11, "pieceHere", "()I"⟩
abbrev cX11_starts : ByteArray := prog_13_method_19_code
def yX11_starts : MethodName := ⟨RX11, "starts", "()V"⟩
abbrev cX11_liars : ByteArray := prog_13_method_20_code
def yX11_liars : MethodName := ⟨RX11, "liars", "()V"⟩
abbrev cX11_piece : ByteArray := prog_13_method_21_code
def yX11_piece : MethodName := ⟨RX11, "piece", "()V"⟩
abbrev cX11_readsCouncil : ByteArray := prog_13_method_22_code
def yX11_readsCouncil : MethodName := ⟨RX11, "readsCouncil", "()I"⟩
abbrev cX11_planLine : ByteArray := prog_13_method_23_code
def yX11_planLine : MethodName := ⟨RX11, "planLine", "()V"⟩
abbrev cX11_readsPlan : ByteArray := prog_13_method_24_code
def yX11_readsPlan : MethodName := ⟨RX11, "readsPlan", "()I"⟩
abbrev cX11_fault : ByteArray := prog_13_method_25_code
def yX11_fault : MethodName := ⟨RX11, "fault", "(I)I"⟩
abbrev cX11_council : ByteArray := prog_13_method_26_code
def yX11_council : MethodName := ⟨RX11, "council", "(J)I"⟩
abbrev cX11_plan : ByteArray := prog_13_method_27_code
def yX11_plan : MethodName := ⟨RX11, "plan", "()I"⟩
abbrev cX11_startsAnew : ByteArray := prog_13_method_28_code
def yX11_startsAnew : MethodName := ⟨RX11, "startsAnew", "()V"⟩
abbrev cX11_each : ByteArray := prog_13_method_29_code
def yX11_each : MethodName := ⟨RX11, "each", "()I"⟩
abbrev cX11_isLiar : ByteArray := prog_13_method_30_code
def yX11_isLiar : MethodName := ⟨RX11, "isLiar", "(I)Z"⟩
abbrev cX11_draw : ByteArray := prog_13_method_31_code
def yX11_draw : MethodName := ⟨RX11, "draw", "()I"⟩
abbrev cX11_agrees : ByteArray := prog_13_method_32_code
def yX11_agrees : MethodName := ⟨RX11, "agrees", "(II)Z"⟩
abbrev cX11_byPlan : ByteArray := prog_13_method_33_code
def yX11_byPlan : MethodName := ⟨RX11, "byPlan", "(IIIII)I"⟩
abbrev cX11_letterOf : ByteArray := prog_13_method_34_code
def yX11_letterOf : MethodName := ⟨RX11, "letterOf", "(IIIII)I"⟩
abbrev cX11_sends : ByteArray := prog_13_method_35_code
def yX11_sends : MethodName := ⟨RX11, "sends", "(II)V"⟩
abbrev cX11_countOf : ByteArray := prog_13_method_36_code
def yX11_countOf : MethodName := ⟨RX11, "countOf", "(II)I"⟩
abbrev cX11_hearsAll : ByteArray := prog_13_method_37_code
def yX11_hearsAll : MethodName := ⟨RX11, "hearsAll", "(I)V"⟩
abbrev cX11_hearsOffers : ByteArray := prog_13_method_38_code
def yX11_hearsOffers : MethodName := ⟨RX11, "hearsOffers", "(I)V"⟩
abbrev cX11_hearsRuler : ByteArray := prog_13_method_39_code
def yX11_hearsRuler : MethodName := ⟨RX11, "hearsRuler", "(II)V"⟩
abbrev cX11_rounds : ByteArray := prog_13_method_40_code
def yX11_rounds : MethodName := ⟨RX11, "rounds", "()V"⟩
abbrev cX11_areAgreed : ByteArray := prog_13_method_41_code
def yX11_areAgreed : MethodName := ⟨RX11, "areAgreed", "()Z"⟩
abbrev cX11_holders : ByteArray := prog_13_method_42_code
def yX11_holders : MethodName := ⟨RX11, "holders", "()I"⟩
abbrev cX11_runsWhole : ByteArray := prog_13_method_43_code
def yX11_runsWhole : MethodName := ⟨RX11, "runsWhole", "(II)V"⟩
abbrev cX11_laysDown : ByteArray := prog_13_method_44_code
def yX11_laysDown : MethodName := ⟨RX11, "laysDown", "()V"⟩
abbrev cX11_takesUp : ByteArray := prog_13_method_45_code
def yX11_takesUp : MethodName := ⟨RX11, "takesUp", "()V"⟩
abbrev cX11_begins : ByteArray := prog_13_method_46_code
def yX11_begins : MethodName := ⟨RX11, "begins", "()V"⟩
abbrev cX11_keeps : ByteArray := prog_13_method_47_code
def yX11_keeps : MethodName := ⟨RX11, "keeps", "()V"⟩
abbrev cX11_toldAt : ByteArray := prog_13_method_48_code
def yX11_toldAt : MethodName := ⟨RX11, "toldAt", "(II)I"⟩
abbrev cX11_roundNow : ByteArray := prog_13_method_49_code
def yX11_roundNow : MethodName := ⟨RX11, "roundNow", "()V"⟩
abbrev cX11_inAll : ByteArray := prog_13_method_50_code
def yX11_inAll : MethodName := ⟨RX11, "inAll", "()I"⟩
abbrev cX11_round : ByteArray := prog_13_method_51_code
def yX11_round : MethodName := ⟨RX11, "round", "()I"⟩
abbrev cX11_run : ByteArray := prog_13_method_52_code
def yX11_run : MethodName := ⟨RX11, "run", "()I"⟩
abbrev cX11_refuse : ByteArray := prog_13_method_53_code
def yX11_refuse : MethodName := ⟨RX11, "refuse", "(I)I"⟩
abbrev cX11_isPeer : ByteArray := prog_13_method_54_code
def yX11_isPeer : MethodName := ⟨RX11, "isPeer", "(I)Z"⟩
abbrev cX11_isRound : ByteArray := prog_13_method_55_code
def yX11_isRound : MethodName := ⟨RX11, "isRound", "(II)Z"⟩
abbrev cX11_say : ByteArray := prog_13_method_56_code
def yX11_say : MethodName := ⟨RX11, "say", "(IIIII)I"⟩
abbrev cX11_starts_ : ByteArray := prog_13_method_57_code
def yX11_starts_ : MethodName := ⟨RX11, "starts", "(I)I"⟩
abbrev cX11_falseOnes : ByteArray := prog_13_method_58_code
def yX11_falseOnes : MethodName := ⟨RX11, "falseOnes", "(I)I"⟩
abbrev cX11_undo : ByteArray := prog_13_method_59_code
def yX11_undo : MethodName := ⟨RX11, "undo", "()I"⟩
abbrev cX11_image : ByteArray := prog_13_method_60_code
def yX11_image : MethodName := ⟨RX11, "image", "()I"⟩
abbrev cX11_back : ByteArray := prog_13_method_61_code
def yX11_back : MethodName := ⟨RX11, "back", "()I"⟩
abbrev cX11_status : ByteArray := prog_13_method_62_code
def yX11_status : MethodName := ⟨RX11, "status", "(I)I"⟩
abbrev cX11_rule : ByteArray := prog_13_method_63_code
def yX11_rule : MethodName := ⟨RX11, "rule", "(I)I"⟩
abbrev cX11_line : ByteArray := prog_13_method_64_code
def yX11_line : MethodName := ⟨RX11, "line", "(II)I"⟩
abbrev cX11_heard : ByteArray := prog_13_method_65_code
def yX11_heard : MethodName := ⟨RX11, "heard", "(IIII)I"⟩
abbrev cX11_peer : ByteArray := prog_13_method_66_code
def yX11_peer : MethodName := ⟨RX11, "peer", "(II)I"⟩
abbrev cX11_over : ByteArray := prog_13_method_67_code
def yX11_over : MethodName := ⟨RX11, "over", "()I"⟩
abbrev cX11_told : ByteArray := prog_13_method_68_code
def yX11_told : MethodName := ⟨RX11, "told", "(III)I"⟩
abbrev cX11_heldBehind : ByteArray := prog_13_method_69_code
def yX11_heldBehind : MethodName := ⟨RX11, "heldBehind", "(II)I"⟩
abbrev cX11_isTrue : ByteArray := prog_13_method_70_code
def yX11_isTrue : MethodName := ⟨RX11, "isTrue", "(I)Z"⟩
abbrev cX11_areAgreedBehind : ByteArray := prog_13_method_71_code
def yX11_areAgreedBehind : MethodName := ⟨RX11, "areAgreedBehind", "(I)Z"⟩
abbrev cX11_agreed : ByteArray := prog_13_method_72_code
def yX11_agreed : MethodName := ⟨RX11, "agreed", "()I"⟩
abbrev cX11_trueOnes : ByteArray := prog_13_method_73_code
def yX11_trueOnes : MethodName := ⟨RX11, "trueOnes", "(I)I"⟩
abbrev cX11_isSomeStart : ByteArray := prog_13_method_74_code
def yX11_isSomeStart : MethodName := ⟨RX11, "isSomeStart", "(I)Z"⟩
abbrev cX11_state : ByteArray := prog_13_method_75_code
def yX11_state : MethodName := ⟨RX11, "state", "(I)I"⟩
abbrev cX11_foretold : ByteArray := prog_13_method_76_code
def yX11_foretold : MethodName := ⟨RX11, "foretold", "(I)I"⟩
abbrev cX11_letters : ByteArray := prog_13_method_77_code
def yX11_letters : MethodName := ⟨RX11, "letters", "(I)I"⟩
abbrev cX11_trueRuler : ByteArray := prog_13_method_78_code
def yX11_trueRuler : MethodName := ⟨RX11, "trueRuler", "()I"⟩
abbrev cX11_greatest : ByteArray := prog_13_method_79_code
def yX11_greatest : MethodName := ⟨RX11, "greatest", "(II)I"⟩
abbrev cX11_freeIn : ByteArray := prog_13_method_80_code
def yX11_freeIn : MethodName := ⟨RX11, "freeIn", "(I)I"⟩
abbrev cX11_free : ByteArray := prog_13_method_81_code
def yX11_free : MethodName := ⟨RX11, "free", "()I"⟩
abbrev cX11_leastBroken : ByteArray := prog_13_method_82_code
def yX11_leastBroken : MethodName := ⟨RX11, "leastBroken", "()I"⟩
abbrev cX11_canSearch : ByteArray := prog_13_method_83_code
def yX11_canSearch : MethodName := ⟨RX11, "canSearch", "()Z"⟩
abbrev cX11_broken : ByteArray := prog_13_method_84_code
def yX11_broken : MethodName := ⟨RX11, "broken", "()I"⟩
abbrev cX11_findsStarts : ByteArray := prog_13_method_85_code
def yX11_findsStarts : MethodName := ⟨RX11, "findsStarts", "()V"⟩
abbrev cX11_brokenStarts : ByteArray := prog_13_method_86_code
def yX11_brokenStarts : MethodName := ⟨RX11, "brokenStarts", "(I)I"⟩
abbrev cX11_breaksSome : ByteArray := prog_13_method_87_code
def yX11_breaksSome : MethodName := ⟨RX11, "breaksSome", "()Z"⟩
abbrev cX11_canBreak : ByteArray := prog_13_method_88_code
def yX11_canBreak : MethodName := ⟨RX11, "canBreak", "(I)I"⟩
abbrev cX11_writesWord : ByteArray := prog_13_method_89_code
def yX11_writesWord : MethodName := ⟨RX11, "writesWord", "(Ljava/lang/String;)V"⟩
abbrev cX11_writesDigit : ByteArray := prog_13_method_90_code
def yX11_writesDigit : MethodName := ⟨RX11, "writesDigit", "(I)V"⟩
abbrev cX11_writesPlan : ByteArray := prog_13_method_91_code
def yX11_writesPlan : MethodName := ⟨RX11, "writesPlan", "(I)V"⟩
abbrev cX11_brokenPlan : ByteArray := prog_13_method_92_code
def yX11_brokenPlan : MethodName := ⟨RX11, "brokenPlan", "(I)I"⟩
abbrev cX11_weakest : ByteArray := prog_13_method_93_code
def yX11_weakest : MethodName := ⟨RX11, "weakest", "()I"⟩
abbrev cX11_ruled : ByteArray := prog_13_method_94_code
def yX11_ruled : MethodName := ⟨RX11, "ruled", "(II)I"⟩
abbrev cX11_held : ByteArray := prog_13_method_95_code
def yX11_held : MethodName := ⟨RX11, "held", "(II)I"⟩
abbrev cX11_needed : ByteArray := prog_13_method_96_code
def yX11_needed : MethodName := ⟨RX11, "needed", "()I"⟩
abbrev cX11_asOthers : ByteArray := prog_13_method_97_code
def yX11_asOthers : MethodName := ⟨RX11, "asOthers", "(I)I"⟩
abbrev cX11_byChance : ByteArray := prog_13_method_98_code
def yX11_byChance : MethodName := ⟨RX11, "byChance", "(IJI)I"⟩
abbrev cX11_shows : ByteArray := prog_13_method_99_code
def yX11_shows : MethodName := ⟨RX11, "shows", "(I)V"⟩
abbrev cX11_showsWord : ByteArray := prog_13_method_100_code
def yX11_showsWord : MethodName := ⟨RX11, "showsWord", "(Ljava/lang/String;)V"⟩
abbrev cX11_shown : ByteArray := prog_13_method_101_code
def yX11_shown : MethodName := ⟨RX11, "shown", "(II)I"⟩
abbrev cX11_mostSuspecting : ByteArray := prog_13_method_102_code
def yX11_mostSuspecting : MethodName := ⟨RX11, "mostSuspecting", "(Z)I"⟩
abbrev cX11_trueOf : ByteArray := prog_13_method_103_code
def yX11_trueOf : MethodName := ⟨RX11, "trueOf", "(III)I"⟩
abbrev cX11_changes : ByteArray := prog_13_method_104_code
def yX11_changes : MethodName := ⟨RX11, "changes", "()I"⟩
abbrev cX11_most : ByteArray := prog_13_method_105_code
def yX11_most : MethodName := ⟨RX11, "most", "(I)I"⟩
abbrev cX11_count : ByteArray := prog_13_method_106_code
def yX11_count : MethodName := ⟨RX11, "count", "(I)I"⟩
def RJx145de : String := "java/io/Serializable"
def TJx145de : u_T := fun k => match k with
  | _ => ("", "", "", false)
def tyJx145de : Nat → FieldType := fun k => match k with
  | _ => .int
abbrev wsJx145de0 : List Cond := u_ws RJx145de TJx145de 0
theorem nmJx145de : ∀ a, a < 0 → ∀ b, b < 0 → a ≠ b → (TJx145de a).2.1 ≠ (TJx145de b).2.1 := by decide +kernel
theorem tyJx145de_ok : ∀ k, k < 0 → parseFieldDescriptor (TJx145de k).2.2.1 = some (tyJx145de k) := by decide +kernel
def RJx9f9b0 : String := "java/lang/CharSequence"
def TJx9f9b0 : u_T := fun k => match k with
  | _ => ("", "", "", false)
def tyJx9f9b0 : Nat → FieldType := fun k => match k with
  | _ => .int
abbrev wsJx9f9b00 : List Cond := u_ws RJx9f9b0 TJx9f9b0 0
theorem nmJx9f9b0 : ∀ a, a < 0 → ∀ b, b < 0 → a ≠ b → (TJx9f9b0 a).2.1 ≠ (TJx9f9b0 b).2.1 := by decide +kernel
theorem tyJx9f9b0_ok : ∀ k, k < 0 → parseFieldDescriptor (TJx9f9b0 k).2.2.1 = some (tyJx9f9b0 k) := by decide +kernel
def RJxb160c : String := "java/lang/Comparable"
def TJxb160c : u_T := fun k => match k with
  | _ => ("", "", "", false)
def tyJxb160c : Nat → FieldType := fun k => match k with
  | _ => .int
abbrev wsJxb160c0 : List Cond := u_ws RJxb160c TJxb160c 0
theorem nmJxb160c : ∀ a, a < 0 → ∀ b, b < 0 → a ≠ b → (TJxb160c a).2.1 ≠ (TJxb160c b).2.1 := by decide +kernel
theorem tyJxb160c_ok : ∀ k, k < 0 → parseFieldDescriptor (TJxb160c k).2.2.1 = some (tyJxb160c k) := by decide +kernel
def RJ6 : String := "java/lang/Integer"
def TJ6 : u_T := fun k => match k with
  | _ => ("", "", "", false)
def tyJ6 : Nat → FieldType := fun k => match k with
  | _ => .int
abbrev wsJ60 : List Cond := u_ws RJ6 TJ6 0
theorem nmJ6 : ∀ a, a < 0 → ∀ b, b < 0 → a ≠ b → (TJ6 a).2.1 ≠ (TJ6 b).2.1 := by decide +kernel
theorem tyJ6_ok : ∀ k, k < 0 → parseFieldDescriptor (TJ6 k).2.2.1 = some (tyJ6 k) := by decide +kernel
abbrev cJ6_bitCount_0f7a4 : ByteArray := prog_18_method_49_code
def yJ6_bitCount_0f7a4 : MethodName := ⟨RJ6, "bitCount", "(I)I"⟩
def RJ13 : String := "java/lang/Long"
def TJ13 : u_T := fun k => match k with
  | _ => ("", "", "", false)
def tyJ13 : Nat → FieldType := fun k => match k with
  | _ => .int
abbrev wsJ130 : List Cond := u_ws RJ13 TJ13 0
theorem nmJ13 : ∀ a, a < 0 → ∀ b, b < 0 → a ≠ b → (TJ13 a).2.1 ≠ (TJ13 b).2.1 := by decide +kernel
theorem tyJ13_ok : ∀ k, k < 0 → parseFieldDescriptor (TJ13 k).2.2.1 = some (tyJ13 k) := by decide +kernel
abbrev cJ13_bitCount_95d88 : ByteArray := prog_19_method_50_code
def yJ13_bitCount_95d88 : MethodName := ⟨RJ13, "bitCount", "(J)I"⟩
def RJ9 : String := "java/lang/Math"
def TJ9 : u_T := fun k => match k with
  | _ => ("", "", "", false)
def tyJ9 : Nat → FieldType := fun k => match k with
  | _ => .int
abbrev wsJ90 : List Cond := u_ws RJ9 TJ9 0
theorem nmJ9 : ∀ a, a < 0 → ∀ b, b < 0 → a ≠ b → (TJ9 a).2.1 ≠ (TJ9 b).2.1 := by decide +kernel
theorem tyJ9_ok : ∀ k, k < 0 → parseFieldDescriptor (TJ9 k).2.2.1 = some (tyJ9 k) := by decide +kernel
abbrev cJ9_max_7cf53 : ByteArray := prog_20_method_65_code
def yJ9_max_7cf53 : MethodName := ⟨RJ9, "max", "(II)I"⟩
abbrev cJ9_min_7cf53 : ByteArray := prog_20_method_69_code
def yJ9_min_7cf53 : MethodName := ⟨RJ9, "min", "(II)I"⟩
def RJ0 : String := "java/lang/String"
def TJ0 : u_T := fun k => match k with
  | _ => ("", "", "", false)
def tyJ0 : Nat → FieldType := fun k => match k with
  | _ => .int
abbrev wsJ00 : List Cond := u_ws RJ0 TJ0 0
theorem nmJ0 : ∀ a, a < 0 → ∀ b, b < 0 → a ≠ b → (TJ0 a).2.1 ≠ (TJ0 b).2.1 := by decide +kernel
theorem tyJ0_ok : ∀ k, k < 0 → parseFieldDescriptor (TJ0 k).2.2.1 = some (tyJ0 k) := by decide +kernel
abbrev cJ0_length_8abf5 : ByteArray := prog_22_method_54_code
def yJ0_length_8abf5 : MethodName := ⟨RJ0, "length", "()I"⟩
abbrev cJ0_charAt_5068e : ByteArray := prog_22_method_56_code
def yJ0_charAt_5068e : MethodName := ⟨RJ0, "charAt", "(I)C"⟩
abbrev cJ0_coder_7d493 : ByteArray := prog_22_method_152_code
def yJ0_coder_7d493 : MethodName := ⟨RJ0, "coder", "()B"⟩
abbrev cJ0_isLatin1_aae02 : ByteArray := prog_22_method_154_code
def yJ0_isLatin1_aae02 : MethodName := ⟨RJ0, "isLatin1", "()Z"⟩
abbrev cJ0_checkIndex_df160 : ByteArray := prog_22_method_155_code
def yJ0_checkIndex_df160 : MethodName := ⟨RJ0, "checkIndex", "(II)V"⟩
def RJ1 : String := "java/lang/StringLatin1"
def TJ1 : u_T := fun k => match k with
  | _ => ("", "", "", false)
def tyJ1 : Nat → FieldType := fun k => match k with
  | _ => .int
abbrev wsJ10 : List Cond := u_ws RJ1 TJ1 0
theorem nmJ1 : ∀ a, a < 0 → ∀ b, b < 0 → a ≠ b → (TJ1 a).2.1 ≠ (TJ1 b).2.1 := by decide +kernel
theorem tyJ1_ok : ∀ k, k < 0 → parseFieldDescriptor (TJ1 k).2.2.1 = some (tyJ1 k) := by decide +kernel
abbrev cJ1_charAt_3b067 : ByteArray := prog_23_method_2_code
def yJ1_charAt_3b067 : MethodName := ⟨RJ1, "charAt", "([BI)C"⟩
def RJ2 : String := "java/lang/StringUTF16"
def TJ2 : u_T := fun k => match k with
  | _ => ("", "", "", false)
def tyJ2 : Nat → FieldType := fun k => match k with
  | _ => .int
abbrev wsJ20 : List Cond := u_ws RJ2 TJ2 0
theorem nmJ2 : ∀ a, a < 0 → ∀ b, b < 0 → a ≠ b → (TJ2 a).2.1 ≠ (TJ2 b).2.1 := by decide +kernel
theorem tyJ2_ok : ∀ k, k < 0 → parseFieldDescriptor (TJ2 k).2.2.1 = some (tyJ2 k) := by decide +kernel
abbrev cJ2_getChar_3b067 : ByteArray := prog_24_method_5_code
def yJ2_getChar_3b067 : MethodName := ⟨RJ2, "getChar", "([BI)C"⟩
abbrev cJ2_length_9d52b : ByteArray := prog_24_method_6_code
def yJ2_length_9d52b : MethodName := ⟨RJ2, "length", "([B)I"⟩
abbrev cJ2_charAt_3b067 : ByteArray := prog_24_method_83_code
def yJ2_charAt_3b067 : MethodName := ⟨RJ2, "charAt", "([BI)C"⟩
abbrev cJ2_checkIndex_2214a : ByteArray := prog_24_method_91_code
def yJ2_checkIndex_2214a : MethodName := ⟨RJ2, "checkIndex", "(I[B)V"⟩
def RJ10 : String := "java/lang/System"
def TJ10 : u_T := fun k => match k with
  | _ => ("", "", "", false)
def tyJ10 : Nat → FieldType := fun k => match k with
  | _ => .int
abbrev wsJ100 : List Cond := u_ws RJ10 TJ10 0
theorem nmJ10 : ∀ a, a < 0 → ∀ b, b < 0 → a ≠ b → (TJ10 a).2.1 ≠ (TJ10 b).2.1 := by decide +kernel
theorem tyJ10_ok : ∀ k, k < 0 → parseFieldDescriptor (TJ10 k).2.2.1 = some (tyJ10 k) := by decide +kernel
def RJxfd54e : String := "java/lang/constant/Constable"
def TJxfd54e : u_T := fun k => match k with
  | _ => ("", "", "", false)
def tyJxfd54e : Nat → FieldType := fun k => match k with
  | _ => .int
abbrev wsJxfd54e0 : List Cond := u_ws RJxfd54e TJxfd54e 0
theorem nmJxfd54e : ∀ a, a < 0 → ∀ b, b < 0 → a ≠ b → (TJxfd54e a).2.1 ≠ (TJxfd54e b).2.1 := by decide +kernel
theorem tyJxfd54e_ok : ∀ k, k < 0 → parseFieldDescriptor (TJxfd54e k).2.2.1 = some (tyJxfd54e k) := by decide +kernel
def RJx3cf43 : String := "java/lang/constant/ConstantDesc"
def TJx3cf43 : u_T := fun k => match k with
  | _ => ("", "", "", false)
def tyJx3cf43 : Nat → FieldType := fun k => match k with
  | _ => .int
abbrev wsJx3cf430 : List Cond := u_ws RJx3cf43 TJx3cf43 0
theorem nmJx3cf43 : ∀ a, a < 0 → ∀ b, b < 0 → a ≠ b → (TJx3cf43 a).2.1 ≠ (TJx3cf43 b).2.1 := by decide +kernel
theorem tyJx3cf43_ok : ∀ k, k < 0 → parseFieldDescriptor (TJx3cf43 k).2.2.1 = some (tyJx3cf43 k) := by decide +kernel
def RJ3 : String := "jdk/internal/util/Preconditions"
def TJ3 : u_T := fun k => match k with
  | _ => ("", "", "", false)
def tyJ3 : Nat → FieldType := fun k => match k with
  | _ => .int
abbrev wsJ30 : List Cond := u_ws RJ3 TJ3 0
theorem nmJ3 : ∀ a, a < 0 → ∀ b, b < 0 → a ≠ b → (TJ3 a).2.1 ≠ (TJ3 b).2.1 := by decide +kernel
theorem tyJ3_ok : ∀ k, k < 0 → parseFieldDescriptor (TJ3 k).2.2.1 = some (tyJ3 k) := by decide +kernel
abbrev cJ3_checkIndex_8e157 : ByteArray := prog_30_method_11_code
def yJ3_checkIndex_8e157 : MethodName := ⟨RJ3, "checkIndex", "(IILjava/util/function/BiFunction;)I"⟩
def RL : String := "RulerWordLaw"
abbrev cL_line : ByteArray := method_3_code
def yL_line : MethodName := ⟨RL, "line", "(LRulerWord;II[J)I"⟩
abbrev cL_law : ByteArray := code
def yL_law : MethodName := ⟨RL, "law", "([I)Z"⟩
abbrev vwCl : List vw_C := [(RX0, TX0, 3), (RX1, TX1, 2), (RX2, TX2, 8), (RX3, TX3, 18), (RX4, TX4, 4), (RX5, TX5, 2), (RX6, TX6, 3), (RX7, TX7, 14), (RX8, TX8, 5), (RX10, TX10, 18), (RX11, TX11, 56)]
def nS : Nat := 31
def lenS : List Nat := [4, 5, 4, 5, 6, 6, 5, 4, 5, 5, 4, 2, 4, 4, 5, 4, 6, 7, 7, 6, 4, 1, 7, 3, 2, 1, 1, 0, 1, 1, 1]
def bytS : List (List Int32) := [[107, 105, 110, 103], [113, 117, 101, 101, 110], [115, 105, 122, 101], [98, 111, 117, 110, 100], [112, 104, 97, 115, 101, 115], [115, 116, 97, 114, 116, 115], [102, 97, 108, 115, 101], [115, 107, 105, 112], [112, 104, 97, 115, 101], [114, 111, 117, 110, 100], [102, 114, 111, 109], [116, 111], [115, 97, 109, 101], [116, 117, 114, 110], [115, 112, 108, 105, 116], [100, 114, 97, 119], [112, 104, 97, 115, 101, 32], [59, 112, 104, 97, 115, 101, 32], [32, 114, 111, 117, 110, 100, 32], [32, 102, 114, 111, 109, 32], [32, 116, 111, 32], [32], [32, 114, 117, 108, 101, 114, 32], [44, 32, 120], [44, 32], [61], [33], [], [60], [63], [59]]
def SR : List (String × Nat × String × Nat) := [("RulerWord$Council", 42, "king", 0), ("RulerWord$Council", 48, "queen", 1), ("RulerWord$Council", 97, "size", 2), ("RulerWord$Council", 98, "bound", 3), ("RulerWord$Council", 99, "phases", 4), ("RulerWord$Council", 100, "starts", 5), ("RulerWord$Council", 101, "false", 6), ("RulerWord$Council", 103, "skip", 7), ("RulerWord$Plan", 63, "phase", 8), ("RulerWord$Plan", 65, "round", 9), ("RulerWord$Plan", 67, "from", 10), ("RulerWord$Plan", 69, "to", 11), ("RulerWord$Plan", 71, "same", 12), ("RulerWord$Plan", 73, "turn", 13), ("RulerWord$Plan", 75, "split", 14), ("RulerWord$Plan", 77, "draw", 15), ("RulerWord", 354, "phase ", 16), ("RulerWord", 412, ";phase ", 17), ("RulerWord", 414, " round ", 18), ("RulerWord", 416, " from ", 19), ("RulerWord", 418, " to ", 20), ("RulerWord", 420, " ", 21), ("RulerWord", 360, " ruler ", 22), ("RulerWord", 362, ", x", 23), ("RulerWord", 364, ", ", 24), ("RulerWord", 366, "=", 25), ("RulerWord", 368, "!", 26), ("RulerWord", 370, "", 27), ("RulerWord", 376, "<", 28), ("RulerWord", 378, "?", 29), ("RulerWordModel", 174, "king", 0), ("RulerWordModel", 176, "queen", 1), ("RulerWordModel", 139, "size", 2), ("RulerWordModel", 145, "bound", 3), ("RulerWordModel", 147, "phases", 4), ("RulerWordModel", 149, "starts", 5), ("RulerWordModel", 151, "false", 6), ("RulerWordModel", 153, "skip", 7), ("RulerWordModel", 187, "phase", 8), ("RulerWordModel", 189, "round", 9), ("RulerWordModel", 191, "from", 10), ("RulerWordModel", 193, "to", 11), ("RulerWordModel", 195, "same", 12), ("RulerWordModel", 197, "turn", 13), ("RulerWordModel", 199, "split", 14), ("RulerWordModel", 201, "draw", 15), ("RulerWordModel", 417, ";", 30), ("RulerWordModel", 423, "phase ", 16), ("RulerWordModel", 428, " round ", 18), ("RulerWordModel", 430, " from ", 19), ("RulerWordModel", 432, " to ", 20), ("RulerWordModel", 434, " ", 21), ("RulerWordModel", 456, " ruler ", 22), ("RulerWordModel", 458, ", ", 24)]
end
section
/-! THE POOL: a world of addresses L, what each holds f; one list of words for every method -/
abbrev HP : Type := Nat → va_E
abbrev GG : Type := va_G × (Nat → ClassId) × (Nat → Nat) × (Nat → Nat)
def isNest : Cond → Bool
  | .fieldLinkNest _ _ _ _ _ _ => true
  | .methodLinkNest _ _ _ _ => true
  | _ => false
def GW : List Cond := lw_tbl.filter goodWord
def NW : List Cond := lw_tbl.filter isNest
theorem mG {w : Cond} (i : Nat) (h : lw_tbl[i]? = some w) (g : goodWord w = true) : w ∈ GW := List.mem_filter.mpr ⟨List.mem_of_getElem? h, g⟩
theorem mN {w : Cond} (i : Nat) (h : lw_tbl[i]? = some w) (g : isNest w = true) : w ∈ NW := List.mem_filter.mpr ⟨List.mem_of_getElem? h, g⟩
theorem mT {w c : Cond} (h : w ∈ GW) : w ∈ c :: GW := List.mem_cons_of_mem _ h
theorem goodGW {w : Cond} (h : w ∈ GW) : (w.onTables && w.keeps) = true ∨ ∃ ty, w = .arrayClass ty := good_of_word (List.mem_filter.mp h).2
theorem goodIn_GW {c d : Cond} (h : d ∈ GW) : GoodIn (c :: GW) (d :: GW) := fun w hw => (List.mem_cons.mp hw).elim (fun e => ⟨by rw [e]; exact mT h, by rw [e]; exact goodGW h⟩) (fun h2 => ⟨mT h2, goodGW h2⟩)
theorem nest_on {w : Cond} (h : isNest w = true) : w.onTables = true := by
  cases w <;> first | rfl | exact absurd h (by simp [isNest])
theorem nest_warm {w : Cond} (h : isNest w = true) {s U : State} (hW : s.WarmedH U.vm) (hZ : va_Nw w s) : va_Nw w U := by
  cases w <;> first | exact va_Nw.warmF hW hZ | exact va_Nw.warmM hW hZ | exact absurd h (by simp [isNest])
/-- the claim's string constants: (owner, entry, text, which literal) -/
def tyG (g : GG) : List (ClassId × FieldType) := [(g.2.1 0, .int), (g.2.1 1, .long), (g.2.1 2, .byte), (g.2.1 3, .boolean), (g.2.1 4, .object "RulerWord$Course")]
def GK (g : GG) (U : State) : Prop := va_K g.1 vwCl (tyG g) U ∧ (∀ w ∈ NW, va_Nw w U) ∧ (∀ q ∈ SR, vk_R q.1 q.2.1 q.2.2.1 (g.2.2.1 q.2.2.2) U) ∧ va_AO "RulerWord$Course" U
theorem GK.warm {g : GG} {s U : State} (hW : s.WarmedH U.vm) (h : GK g s) : GK g U := ⟨va_K.moved hW.alike h.1, fun w hw => nest_warm (List.mem_filter.mp hw).2 hW (h.2.1 w hw), fun q hq => vk_R.warm hW (h.2.2.1 q hq), va_AO.moved hW.alike h.2.2.2⟩
theorem GK.same {g : GG} {s U : State} (hv : U.vm = s.vm) (h : GK g s) : GK g U := ⟨va_K.moved (by rw [hv]; exact Vm.Alike.refl _) h.1, fun w hw => va_Nw.same (nest_on (List.mem_filter.mp hw).2) hv.symm (h.2.1 w hw), fun q hq => vk_R.same hv (h.2.2.1 q hq), va_AO.moved (by rw [hv]; exact Vm.Alike.refl _) h.2.2.2⟩
abbrev Rg (L : List Nat) (f : HP) (sz : Nat) : Nat → Prop := va_A (va_pl L f) sz
def SW (g : GG) (A : Nat → Prop) (U : State) (H : Heap) : Prop := (∀ i : Nat, i < nS → va_O "java/lang/String" (g.2.2.1 i) A U H ∧ va_OF "java/lang/String" "coder" "B" (.int 0) (g.2.2.1 i) A U H ∧ va_OF "java/lang/String" "value" "[B" (.ref (g.2.2.2 i)) (g.2.2.1 i) A U H ∧ va_T .byte (g.2.2.2 i) (lenS.getD i 0) (fun j => .int ((bytS.getD i []).getD j 0)) A U H) ∧ va_Z "java/lang/String" "COMPACT_STRINGS" "Z" (.int 1) A U H
theorem SW.moved {g : GG} {A : Nat → Prop} {u U : State} {H : Heap} (hvm : u.vm.Alike U.vm) (h : SW g A u H) : SW g A U H := ⟨fun i hi => ⟨va_O.moved hvm (h.1 i hi).1, va_OF.moved hvm (h.1 i hi).2.1, va_OF.moved hvm (h.1 i hi).2.2.1, va_T.moved hvm (h.1 i hi).2.2.2⟩, va_Z.moved hvm h.2⟩
theorem SW.kept {g : GG} {A : Nat → Prop} {U : State} {H H1 : Heap} (h : SW g A U H) (hq : ∀ a : Nat, a < H.size → ¬ A a → H1[a]? = H[a]?) : SW g A U H1 := ⟨fun i hi => ⟨(h.1 i hi).1.kept hq, (h.1 i hi).2.1.kept hq, (h.1 i hi).2.2.1.kept hq, (h.1 i hi).2.2.2.kept hq⟩, h.2.kept hq⟩
theorem SW.narrow {g : GG} {A B : Nat → Prop} {U : State} {H : Heap} (h : SW g A U H) (hAB : ∀ q, B q → A q) : SW g B U H := ⟨fun i hi => ⟨(h.1 i hi).1.narrow hAB, (h.1 i hi).2.1.narrow hAB, (h.1 i hi).2.2.1.narrow hAB, (h.1 i hi).2.2.2.narrow hAB⟩, h.2.narrow hAB⟩
def PreB (g : GG) (L : List Nat) (f : HP) (sz : Nat) (U : State) : Prop := U.heap.size = sz ∧ va_P g.1 vwCl (va_pl L f) U.heap ∧ GK g U ∧ va_D (fun _ => True) (va_pl L f) ∧ SW g (Rg L f sz) U U.heap
def PstB (g : GG) (A : Nat → Prop) (u : List Nat × HP) (t : State) : Prop := va_P g.1 vwCl (va_pl u.1 u.2) t.heap ∧ va_D A (va_pl u.1 u.2)
/-- contracts: an int, a long, nothing comes back -/
def MtI (l : Launch) (g : GG) (y : MethodName) (cc : ByteArray) (n : Nat) (ret : Option FieldType) (rm : Room) (av : List Value) (L : List Nat) (f : HP) (sz : Nat) (post : Int32 → (List Nat × HP) → Prop) : Prop :=
  Met l y (Cond.code y cc n ret :: GW) rm (va_Pc av (PreB g L f sz)) (va_Qi post (PstB g (Rg L f sz)) (Rg L f sz)) rm.cells rm.slots (Rg L f sz)
def MtL (l : Launch) (g : GG) (y : MethodName) (cc : ByteArray) (n : Nat) (ret : Option FieldType) (rm : Room) (av : List Value) (L : List Nat) (f : HP) (sz : Nat) (post : Int64 → (List Nat × HP) → Prop) : Prop :=
  Met l y (Cond.code y cc n ret :: GW) rm (va_Pc av (PreB g L f sz)) (va_Ql post (PstB g (Rg L f sz)) (Rg L f sz)) rm.cells rm.slots (Rg L f sz)
def MtV (l : Launch) (g : GG) (y : MethodName) (cc : ByteArray) (n : Nat) (rm : Room) (av : List Value) (L : List Nat) (f : HP) (sz : Nat) (post : (List Nat × HP) → Prop) : Prop :=
  Met l y (Cond.code y cc n none :: GW) rm (va_Pc av (PreB g L f sz)) (va_Qv post (PstB g (Rg L f sz)) (Rg L f sz)) rm.cells rm.slots (Rg L f sz)
/-- what a method's body stands on -/
def ENV (p : Program) (e : Env) (s : State) (m : MethodId) (av : List Value) (meth : Method) (c : Code) (y : MethodName) (cc : ByteArray) (n : Nat) (ret : Option FieldType) (g : GG) (L : List Nat) (f : HP) (A : Nat → Prop) : Prop :=
  p.tables.exec = Jvm.exec ∧ c.code = cc ∧ meth.sig.returnType = ret ∧ c.maxLocals = n ∧ s.vm.findClass y.cls = some m.cls ∧ meth.locks = false ∧ (∀ w ∈ (Cond.code y cc n ret :: GW), w.before av.toArray s = true) ∧ GK g s ∧ (∀ q, s.heap.size ≤ q → A q) ∧ SW g A s s.heap ∧ meth.name = y.name
theorem pre_blind {g : GG} {av : List Value} {L : List Nat} {f : HP} {sz : Nat} : FrameBlind (va_Pc av (PreB g L f sz)) := fun a U gg mk q => by
  obtain ⟨q0, q1, qP, qK, qD, qS⟩ := q
  exact ⟨q0, q1, qP, GK.same (s := U) (U := U.calling gg mk a) rfl qK, qD, SW.moved (u := U) (U := U.calling gg mk a) (Vm.Alike.refl U.vm) qS⟩
section START
variable {l : Launch} {g : GG} {y : MethodName} {cc : ByteArray} {n : Nat} {ret : Option FieldType} {rm : Room} {av : List Value} {L : List Nat} {f : HP} {sz : Nat}
theorem env_of {p : Program} {e : Env} {s : State} {m : MethodId} {args : Array Value} {below : List Frame} {meth : Method} {c : Code} {s₁ : State} (B : BodyLoose p l y (headSpec (Cond.code y cc n ret :: GW) rm) cc n ret e s m args below meth c s₁) (hml : c.maxLocals = n) (hv : va_Pc av (PreB g L f sz) args s) :
    args = av.toArray ∧ sz = s.heap.size ∧ va_P g.1 vwCl (va_pl L f) s.heap ∧ va_D (Rg L f sz) (va_pl L f) ∧ ENV p e s m av meth c y cc n ret g L f (Rg L f sz) := by
  obtain ⟨rfl, hsz, hP, hK, hD0, hE⟩ := hv
  subst hsz
  exact ⟨rfl, rfl, hP, hD0.self, B.exec, B.bytes, B.returns, hml, findClass_of_methodNamed B.named, B.notSynchronized, atoms_spec (ws := Cond.code y cc n ret :: GW) B.pre, hK, fun q h => Or.inr h, hE, (name_of_methodNamed B.named B.method).1⟩
theorem MtI.of {post : Int32 → (List Nat × HP) → Prop} (hy : plainName y.cls = true) (hlen : (lg_sl av).length ≤ n)
    (body : ∀ (p : Program) (e : Env) (s : State) (m : MethodId) (below : List Frame) (meth : Method) (c : Code) (A : Nat → Prop), ENV p e s m av meth c y cc n ret g L f A → va_P g.1 vwCl (va_pl L f) s.heap → va_D A (va_pl L f) → va_S A s.heap s.heap [] → ∀ ls : Array Slot, lv_has ls n (lv_args 0 av) →
      W p l e rm s m av.toArray below meth c s.heap [] 0 0 (MQ below (va_Qi post (PstB g A) A) av.toArray s rm.cells rm.slots A) (F0 m 0 ls [])) : MtI l g y cc n ret rm av L f sz post := by
  refine Met.ofW (cc := cc) (maxL := n) (ret := ret) hy rfl ?_
  intro p e s m args below meth c s₁ B hml hv
  obtain ⟨rfl, rfl, hP, hD, hE⟩ := env_of B hml hv
  have hl := lv_entry av (n := n) hlen
  rw [lg_entry_eq]
  exact body p e s m below meth c _ hE hP hD va_S.rf _ hl
theorem MtL.of {post : Int64 → (List Nat × HP) → Prop} (hy : plainName y.cls = true) (hlen : (lg_sl av).length ≤ n)
    (body : ∀ (p : Program) (e : Env) (s : State) (m : MethodId) (below : List Frame) (meth : Method) (c : Code) (A : Nat → Prop), ENV p e s m av meth c y cc n ret g L f A → va_P g.1 vwCl (va_pl L f) s.heap → va_D A (va_pl L f) → va_S A s.heap s.heap [] → ∀ ls : Array Slot, lv_has ls n (lv_args 0 av) →
      W p l e rm s m av.toArray below meth c s.heap [] 0 0 (MQ below (va_Ql post (PstB g A) A) av.toArray s rm.cells rm.slots A) (F0 m 0 ls [])) : MtL l g y cc n ret rm av L f sz post := by
  refine Met.ofW (cc := cc) (maxL := n) (ret := ret) hy rfl ?_
  intro p e s m args below meth c s₁ B hml hv
  obtain ⟨rfl, rfl, hP, hD, hE⟩ := env_of B hml hv
  have hl := lv_entry av (n := n) hlen
  rw [lg_entry_eq]
  exact body p e s m below meth c _ hE hP hD va_S.rf _ hl
theorem MtV.of {post : (List Nat × HP) → Prop} (hy : plainName y.cls = true) (hlen : (lg_sl av).length ≤ n)
    (body : ∀ (p : Program) (e : Env) (s : State) (m : MethodId) (below : List Frame) (meth : Method) (c : Code) (A : Nat → Prop), ENV p e s m av meth c y cc n none g L f A → va_P g.1 vwCl (va_pl L f) s.heap → va_D A (va_pl L f) → va_S A s.heap s.heap [] → ∀ ls : Array Slot, lv_has ls n (lv_args 0 av) →
      W p l e rm s m av.toArray below meth c s.heap [] 0 0 (MQ below (va_Qv post (PstB g A) A) av.toArray s rm.cells rm.slots A) (F0 m 0 ls [])) : MtV l g y cc n rm av L f sz post := by
  refine Met.ofW (cc := cc) (maxL := n) (ret := none) hy rfl ?_
  intro p e s m args below meth c s₁ B hml hv
  obtain ⟨rfl, rfl, hP, hD, hE⟩ := env_of B hml hv
  have hl := lv_entry av (n := n) hlen
  rw [lg_entry_eq]
  exact body p e s m below meth c _ hE hP hD va_S.rf _ hl
end START
end
section
/-! ROWS OVER THE POOL -/
theorem pl_mem {L : List Nat} {f : HP} {a : Nat} (h : a ∈ L) : ∃ k : Nat, (va_pl L f)[k]? = some (a, f a) := va_pl_get (X := []) h
theorem pl_set {A : Nat → Prop} {L : List Nat} {f : HP} {a k : Nat} {e : va_E} (hD : va_D A (va_pl L f)) (h : a ∈ L) (hk : (va_pl L f)[k]? = some (a, f a)) : (va_pl L f).set k (a, e) = va_pl L (va_up f a e) := va_pl_set (X := []) hD h hk
theorem up_at {α : Type} (f : Nat → α) (a : Nat) (v : α) : va_up f a v a = v := by simp [va_up]
theorem kne {f : HP} {a b c1 c2 : Nat} {l1 l2 : List Value} (ha : f a = .inr (c1, l1)) (hb : f b = .inr (c2, l2)) (h : c1 ≠ c2) : a ≠ b := fun e => by
  rw [e, hb] at ha
  injection ha with h1
  injection h1 with h2
  exact h h2.symm
theorem kno {f : HP} {a b c1 : Nat} {l1 : List Value} {x : ClassId × vp_A} (ha : f a = .inr (c1, l1)) (hb : f b = .inl x) : a ≠ b := fun e => by
  rw [e, hb] at ha
  cases ha
section ROWS
variable {p : Program} {l : Launch} {e : Env} {R : Room} {s : State} {m : MethodId} {args : Array Value} {below : List Frame} {meth : Method} {c : Code} {H : Heap} {locs : List Loc} {cells slots : Nat} {Q : State → Prop} {cc : ByteArray} {pc : Nat} {ls : Array Slot} {rest : List Value} {D : va_G} {tys : List (ClassId × FieldType)} {L : List Nat} {f : HP} {A : Nat → Prop} {H0 : Heap} {a : Nat}
theorem pl_get (hexec : p.tables.exec = Jvm.exec) (hb : c.code = cc) {own ref C : String} {T : u_T} {N ci index : Nat} {Ts : List Cond} (hts : ∀ w ∈ Ts, w.before args s = true) (hin : ∀ w ∈ u_ws C T N, w ∈ Ts) (hown : s.vm.findClass own = some m.cls) (hK : va_K D vwCl tys s) (hP : va_P D vwCl (va_pl L f) H) (hm : a ∈ L) {fs : List Value} (hf : f a = .inr (ci, fs)) (hc : vwCl[ci]? = some (C, T, N)) (k : Nat) (hk : k < N) (hlink : (Cond.fieldLink own index ref (T k).2.1 (T k).2.2.1).before args s = true) (hsame : ∀ x, s.fieldFound? (T k).1 (T k).2.1 (T k).2.2.1 = some x → s.fieldFound? ref (T k).2.1 (T k).2.2.1 = some x) {v : Value} (hv : fs[k]? = some v) (hdg : decode cc pc = .ok (.getfield index, 3))
    (kk : W p l e R s m args below meth c H locs cells slots Q (F0 m (pc + 3) ls (v :: rest))) : W p l e R s m args below meth c H locs cells slots Q (F0 m pc ls (.ref a :: rest)) := by
  obtain ⟨q0, hq⟩ := pl_mem (f := f) hm
  rw [hf] at hq
  exact va_get hexec hb hts hin hown hK hP q0 hq hc k hk hlink hsame hv hdg kk
theorem pl_getN (hexec : p.tables.exec = Jvm.exec) (hb : c.code = cc) {own ref C host : String} {T : u_T} {N ci index : Nat} {Ts : List Cond} (hts : ∀ w ∈ Ts, w.before args s = true) (hin : ∀ w ∈ u_ws C T N, w ∈ Ts) (hown : s.vm.findClass own = some m.cls) (hK : va_K D vwCl tys s) (hP : va_P D vwCl (va_pl L f) H) (hm : a ∈ L) {fs : List Value} (hf : f a = .inr (ci, fs)) (hc : vwCl[ci]? = some (C, T, N)) (k : Nat) (hk : k < N) (hlink : va_Nw (.fieldLinkNest own index ref (T k).2.1 (T k).2.2.1 host) s) (hsame : ∀ x, s.fieldFound? (T k).1 (T k).2.1 (T k).2.2.1 = some x → s.fieldFound? ref (T k).2.1 (T k).2.2.1 = some x) {v : Value} (hv : fs[k]? = some v) (hdg : decode cc pc = .ok (.getfield index, 3))
    (kk : W p l e R s m args below meth c H locs cells slots Q (F0 m (pc + 3) ls (v :: rest))) : W p l e R s m args below meth c H locs cells slots Q (F0 m pc ls (.ref a :: rest)) := by
  obtain ⟨q0, hq⟩ := pl_mem (f := f) hm
  rw [hf] at hq
  exact va_getN hexec hb hts hin hown hK hP q0 hq hc k hk (va_Nw.use rfl hlink) hsame hv hdg kk
theorem pl_after {e1 : va_E} {q0 : Nat} {H1 : Heap} {G : Prop} (hD : va_D A (va_pl L f)) (hm : a ∈ L) (hq : (va_pl L f)[q0]? = some (a, f a)) (h1 : va_P D vwCl ((va_pl L f).set q0 (a, e1)) H1) (h2 : va_D A ((va_pl L f).set q0 (a, e1))) (kk : ∀ f1 : HP, f1 a = e1 → (∀ b, b ≠ a → f1 b = f b) → va_P D vwCl (va_pl L f1) H1 → va_D A (va_pl L f1) → G) : G := by
  rw [pl_set hD hm hq] at h1 h2
  exact kk (va_up f a e1) (up_at f a e1) (fun b hb => va_up_ne f e1 hb) h1 h2
theorem pl_put (hexec : p.tables.exec = Jvm.exec) (hb : c.code = cc) {own ref C : String} {T : u_T} {N ci index : Nat} {Ts : List Cond} (hts : ∀ w ∈ Ts, w.before args s = true) (hin : ∀ w ∈ u_ws C T N, w ∈ Ts) (ty0 : Nat → FieldType) (hty : ∀ k, k < N → parseFieldDescriptor (T k).2.2.1 = some (ty0 k)) (hnm : ∀ a, a < N → ∀ b, b < N → a ≠ b → (T a).2.1 ≠ (T b).2.1) (hown : s.vm.findClass own = some m.cls) (hK : va_K D vwCl tys s) (hP : va_P D vwCl (va_pl L f) H) (hD : va_D A (va_pl L f)) (hS0 : va_S A H0 H locs) (hm : a ∈ L) {fs : List Value} (hf : f a = .inr (ci, fs)) (hc : vwCl[ci]? = some (C, T, N)) (k : Nat) (hk : k < N) (hlink : (Cond.fieldLink own index ref (T k).2.1 (T k).2.2.1).before args s = true) (hsame : ∀ x, s.fieldFound? (T k).1 (T k).2.1 (T k).2.2.1 = some x → s.fieldFound? ref (T k).2.1 (T k).2.2.1 = some x) (hfin : (T k).2.2.2 = false) {ty : FieldType} {v : Value} (hd : parseFieldDescriptor (T k).2.2.1 = some ty) (hn : narrow ty v = v) (hfit : fits ty v = true) (hl : k < fs.length) {fs' : List Value} (hs : fs.set k v = fs')
    (hdg : decode cc pc = .ok (.putfield index, 3)) (kk : ∀ (H1 : Heap) (locs1 : List Loc) (f1 : HP), f1 a = .inr (ci, fs') → (∀ b, b ≠ a → f1 b = f b) → va_P D vwCl (va_pl L f1) H1 → va_D A (va_pl L f1) → va_S A H0 H1 locs1 → W p l e R s m args below meth c H1 locs1 cells slots Q (F0 m (pc + 3) ls rest)) : W p l e R s m args below meth c H locs cells slots Q (F0 m pc ls (v :: .ref a :: rest)) := by
  obtain ⟨q0, hq⟩ := pl_mem (f := f) hm
  have hq2 := hq
  rw [hf] at hq2
  refine va_put hexec hb hts hin ty0 hty hnm hown hK hP hD hS0 q0 hq2 hc k hk hlink hsame hfin hd hn hfit hl hdg fun H1 locs1 h1 h2 h3 => ?_
  exact pl_after hD hm hq h1 h2 (fun f1 g1 g2 g3 g4 => kk H1 locs1 f1 (by rw [g1, hs]) g2 g3 g4 h3)
theorem pl_putN (hexec : p.tables.exec = Jvm.exec) (hb : c.code = cc) {own ref C host : String} {T : u_T} {N ci index : Nat} {Ts : List Cond} (hts : ∀ w ∈ Ts, w.before args s = true) (hin : ∀ w ∈ u_ws C T N, w ∈ Ts) (ty0 : Nat → FieldType) (hty : ∀ k, k < N → parseFieldDescriptor (T k).2.2.1 = some (ty0 k)) (hnm : ∀ a, a < N → ∀ b, b < N → a ≠ b → (T a).2.1 ≠ (T b).2.1) (hown : s.vm.findClass own = some m.cls) (hK : va_K D vwCl tys s) (hP : va_P D vwCl (va_pl L f) H) (hD : va_D A (va_pl L f)) (hS0 : va_S A H0 H locs) (hm : a ∈ L) {fs : List Value} (hf : f a = .inr (ci, fs)) (hc : vwCl[ci]? = some (C, T, N)) (k : Nat) (hk : k < N) (hlink : va_Nw (.fieldLinkNest own index ref (T k).2.1 (T k).2.2.1 host) s) (hsame : ∀ x, s.fieldFound? (T k).1 (T k).2.1 (T k).2.2.1 = some x → s.fieldFound? ref (T k).2.1 (T k).2.2.1 = some x) (hfin : (T k).2.2.2 = false) {ty : FieldType} {v : Value} (hd : parseFieldDescriptor (T k).2.2.1 = some ty) (hn : narrow ty v = v) (hfit : fits ty v = true) (hl : k < fs.length) {fs' : List Value} (hs : fs.set k v = fs')
    (hdg : decode cc pc = .ok (.putfield index, 3)) (kk : ∀ (H1 : Heap) (locs1 : List Loc) (f1 : HP), f1 a = .inr (ci, fs') → (∀ b, b ≠ a → f1 b = f b) → va_P D vwCl (va_pl L f1) H1 → va_D A (va_pl L f1) → va_S A H0 H1 locs1 → W p l e R s m args below meth c H1 locs1 cells slots Q (F0 m (pc + 3) ls rest)) : W p l e R s m args below meth c H locs cells slots Q (F0 m pc ls (v :: .ref a :: rest)) := by
  obtain ⟨q0, hq⟩ := pl_mem (f := f) hm
  have hq2 := hq
  rw [hf] at hq2
  refine va_putN hexec hb hts hin ty0 hty hnm hown hK hP hD hS0 q0 hq2 hc k hk (va_Nw.use rfl hlink) hsame hfin hd hn hfit hl hdg fun H1 locs1 h1 h2 h3 => ?_
  exact pl_after hD hm hq h1 h2 (fun f1 g1 g2 g3 g4 => kk H1 locs1 f1 (by rw [g1, hs]) g2 g3 g4 h3)
theorem pl_putF (hexec : p.tables.exec = Jvm.exec) (hb : c.code = cc) {own ref C : String} {T : u_T} {N ci index : Nat} {Ts : List Cond} (hts : ∀ w ∈ Ts, w.before args s = true) (hin : ∀ w ∈ u_ws C T N, w ∈ Ts) (ty0 : Nat → FieldType) (hty : ∀ k, k < N → parseFieldDescriptor (T k).2.2.1 = some (ty0 k)) (hnm : ∀ a, a < N → ∀ b, b < N → a ≠ b → (T a).2.1 ≠ (T b).2.1) (hown : s.vm.findClass own = some m.cls) (hK : va_K D vwCl tys s) (hP : va_P D vwCl (va_pl L f) H) (hD : va_D A (va_pl L f)) (hS0 : va_S A H0 H locs) (hm : a ∈ L) {fs : List Value} (hf : f a = .inr (ci, fs)) (hc : vwCl[ci]? = some (C, T, N)) (k : Nat) (hk : k < N) (hlink : (Cond.fieldLink own index ref (T k).2.1 (T k).2.2.1).before args s = true) (hsame : ∀ x, s.fieldFound? (T k).1 (T k).2.1 (T k).2.2.1 = some x → s.fieldFound? ref (T k).2.1 (T k).2.2.1 = some x) (hfin : (T k).2.2.2 = true) (hin2 : meth.name = "<init>") (hdecl : (T k).1 = own) {ty : FieldType} {v : Value} (hd : parseFieldDescriptor (T k).2.2.1 = some ty) (hn : narrow ty v = v) (hfit : fits ty v = true) (hl : k < fs.length) {fs' : List Value} (hs : fs.set k v = fs')
    (hdg : decode cc pc = .ok (.putfield index, 3)) (kk : ∀ (H1 : Heap) (locs1 : List Loc) (f1 : HP), f1 a = .inr (ci, fs') → (∀ b, b ≠ a → f1 b = f b) → va_P D vwCl (va_pl L f1) H1 → va_D A (va_pl L f1) → va_S A H0 H1 locs1 → W p l e R s m args below meth c H1 locs1 cells slots Q (F0 m (pc + 3) ls rest)) : W p l e R s m args below meth c H locs cells slots Q (F0 m pc ls (v :: .ref a :: rest)) := by
  obtain ⟨q0, hq⟩ := pl_mem (f := f) hm
  have hq2 := hq
  rw [hf] at hq2
  refine va_putF hexec hb hts hin ty0 hty hnm hown hK hP hD hS0 q0 hq2 hc k hk hlink hsame hfin hin2 hdecl hd hn hfit hl hdg fun H1 locs1 h1 h2 h3 => ?_
  exact pl_after hD hm hq h1 h2 (fun f1 g1 g2 g3 g4 => kk H1 locs1 f1 (by rw [g1, hs]) g2 g3 g4 h3)
theorem pl_alen (hexec : p.tables.exec = Jvm.exec) (hb : c.code = cc) (hK : va_K D vwCl tys s) (hP : va_P D vwCl (va_pl L f) H) (hm : a ∈ L) (t0 : Nat) {cA : ClassId} {x : vp_A} (hf : f a = .inl (cA, x)) {ty : FieldType} (ht : tys[t0]? = some (cA, ty)) {v : Int32} (hv : Int32.ofNat x.1 = v) (hdg : decode cc pc = .ok (.arraylength, 1))
    (kk : W p l e R s m args below meth c H locs cells slots Q (F0 m (pc + 1) ls (.int v :: rest))) : W p l e R s m args below meth c H locs cells slots Q (F0 m pc ls (.ref a :: rest)) := by
  obtain ⟨q0, hq⟩ := pl_mem (f := f) hm
  rw [hf] at hq
  exact va_alen hexec hb hK hP q0 t0 hq ht hv hdg kk
theorem pl_iald (hexec : p.tables.exec = Jvm.exec) (hb : c.code = cc) (hK : va_K D vwCl tys s) (hP : va_P D vwCl (va_pl L f) H) (hm : a ∈ L) (t0 : Nat) {cA : ClassId} {n : Nat} {r : Nat → Int32} (hf : f a = .inl (cA, n, .inl r)) (ht : tys[t0]? = some (cA, .int)) {i : Int32} (hin : vp_in i n) (hdg : decode cc pc = .ok (.iaload, 1))
    (kk : W p l e R s m args below meth c H locs cells slots Q (F0 m (pc + 1) ls (.int (r i.toNatClampNeg) :: rest))) : W p l e R s m args below meth c H locs cells slots Q (F0 m pc ls (.int i :: .ref a :: rest)) := by
  obtain ⟨q0, hq⟩ := pl_mem (f := f) hm
  rw [hf] at hq
  exact va_iald hexec hb hK hP q0 t0 hq ht hin hdg kk
theorem pl_iast (hexec : p.tables.exec = Jvm.exec) (hb : c.code = cc) (hK : va_K D vwCl tys s) (hP : va_P D vwCl (va_pl L f) H) (hD : va_D A (va_pl L f)) (hS : va_S A H0 H locs) (hm : a ∈ L) (t0 : Nat) {cA : ClassId} {n : Nat} {r : Nat → Int32} (hf : f a = .inl (cA, n, .inl r)) (ht : tys[t0]? = some (cA, .int)) {i : Int32} {x : Int32} (hin : vp_in i n) (hdg : decode cc pc = .ok (.iastore, 1))
    (kk : ∀ (H1 : Heap) (locs1 : List Loc) (f1 : HP), f1 a = .inl (cA, n, .inl (upd r i.toNatClampNeg x)) → (∀ b, b ≠ a → f1 b = f b) → va_P D vwCl (va_pl L f1) H1 → va_D A (va_pl L f1) → va_S A H0 H1 locs1 → W p l e R s m args below meth c H1 locs1 cells slots Q (F0 m (pc + 1) ls rest)) : W p l e R s m args below meth c H locs cells slots Q (F0 m pc ls (.int x :: .int i :: .ref a :: rest)) := by
  obtain ⟨q0, hq⟩ := pl_mem (f := f) hm
  have hq2 := hq
  rw [hf] at hq2
  refine va_iast hexec hb hK hP hD hS q0 t0 hq2 ht hin hdg fun H1 locs1 h1 h2 h3 => ?_
  exact pl_after hD hm hq h1 h2 (fun f1 g1 g2 g3 g4 => kk H1 locs1 f1 g1 g2 g3 g4 h3)
theorem pl_bast (hexec : p.tables.exec = Jvm.exec) (hb : c.code = cc) (hK : va_K D vwCl tys s) (hP : va_P D vwCl (va_pl L f) H) (hD : va_D A (va_pl L f)) (hS : va_S A H0 H locs) (hm : a ∈ L) (t0 : Nat) {cA : ClassId} {n : Nat} {r : Nat → Int32} (hf : f a = .inl (cA, n, .inl r)) (ht : tys[t0]? = some (cA, .byte)) {i : Int32} {x : Int32} (hin : vp_in i n) (hdg : decode cc pc = .ok (.bastore, 1))
    (kk : ∀ (H1 : Heap) (locs1 : List Loc) (f1 : HP) (r1 : Nat → Int32), f1 a = .inl (cA, n, .inl r1) → (∀ b, b ≠ a → f1 b = f b) → va_P D vwCl (va_pl L f1) H1 → va_D A (va_pl L f1) → va_S A H0 H1 locs1 → W p l e R s m args below meth c H1 locs1 cells slots Q (F0 m (pc + 1) ls rest)) : W p l e R s m args below meth c H locs cells slots Q (F0 m pc ls (.int x :: .int i :: .ref a :: rest)) := by
  obtain ⟨q0, hq⟩ := pl_mem (f := f) hm
  have hq2 := hq
  rw [hf] at hq2
  refine va_bast hexec hb hK hP hD hS q0 t0 hq2 ht hin hdg fun H1 locs1 h1 h2 h3 => ?_
  exact pl_after hD hm hq h1 h2 (fun f1 g1 g2 g3 g4 => kk H1 locs1 f1 _ g1 g2 g3 g4 h3)
theorem pl_grow {e1 : va_E} {q : Nat} {H1 : Heap} {G : Prop} (h1 : va_P D vwCl (va_pl L f ++ [(q, e1)]) H1) (h2 : va_D A (va_pl L f ++ [(q, e1)])) (kk : ∀ (L1 : List Nat) (f1 : HP), q ∉ L → (∀ b, b ∈ L → b ∈ L1) → q ∈ L1 → f1 q = e1 → (∀ b, b ∈ L → f1 b = f b) → va_P D vwCl (va_pl L1 f1) H1 → va_D A (va_pl L1 f1) → G) : G := by
  have hq : q ∉ L := va_pl_fresh2 (X := []) h2
  rw [va_pl_push hq] at h1 h2
  exact kk (L ++ [q]) (va_up f q e1) hq (fun b hb => List.mem_append_left _ hb) (List.mem_append_right _ List.mem_cons_self) (up_at f q e1) (fun b hb => va_up_ne f e1 (fun e => hq (e ▸ hb))) h1 h2
theorem pl_new {c0 : Code} (hexec : p.tables.exec = Jvm.exec) (hb : c0.code = cc) {own C : String} {T : u_T} {N ci index : Nat} {Ts : List Cond} (hts : ∀ w ∈ Ts, w.before args s = true) (hin : ∀ w ∈ u_ws C T N, w ∈ Ts) (ty : Nat → FieldType) (hty : ∀ k, k < N → parseFieldDescriptor (T k).2.2.1 = some (ty k)) (hown : s.vm.findClass own = some m.cls) (hcl : (Cond.classLink own index C).before args s = true) (hinst : (Cond.instantiable C N).before args s = true) (hini : (Cond.initialized C).before args s = true)
    (hK : va_K D vwCl tys s) (hP : va_P D vwCl (va_pl L f) H) (hD : va_D A (va_pl L f)) (hS : va_S A H0 H locs) (hA : ∀ q, H0.size ≤ q → A q) (hc : vwCl[ci]? = some (C, T, N)) {fs : List Value} (hfs : ∀ j, j < N → defaultValue (ty j) = vp_V fs j) (hcells : cells + 1 ≤ R.cells) (hslots : slots + N ≤ R.slots) (hdg : decode cc pc = .ok (.new index, 3))
    (kk : ∀ (q : Nat) (H1 : Heap) (L1 : List Nat) (f1 : HP), q ∉ L → (∀ b, b ∈ L → b ∈ L1) → q ∈ L1 → f1 q = .inr (ci, fs) → (∀ b, b ∈ L → f1 b = f b) → va_P D vwCl (va_pl L1 f1) H1 → va_D A (va_pl L1 f1) → va_S A H0 H1 locs →
      W p l e R s m args below meth c0 H1 locs (cells + 1) (slots + N) Q (F0 m (pc + 3) ls (.ref q :: rest))) : W p l e R s m args below meth c0 H locs cells slots Q (F0 m pc ls rest) := by
  refine va_new hexec hb hts hin ty hty hown hcl hinst hini hK hP hD hS hA hc hfs hcells hslots hdg fun q H1 h1 h2 h3 => ?_
  exact pl_grow h1 h2 (fun L1 f1 g0 g1 g2 g3 g4 g5 g6 => kk q H1 L1 f1 g0 g1 g2 g3 g4 g5 g6 h3)
theorem pl_newa (hexec : p.tables.exec = Jvm.exec) (hb : c.code = cc) {atype : ArrayType} (harr : (Cond.arrayClass (newarray.typeOf atype)).before args s = true) {ty : FieldType} (hty : newarray.typeOf atype = ty) (hK : va_K D vwCl tys s) (hP : va_P D vwCl (va_pl L f) H) (hD : va_D A (va_pl L f)) (hS : va_S A H0 H locs) (hA : ∀ q, H0.size ≤ q → A q) (t0 : Nat) {cA0 : ClassId} (ht : tys[t0]? = some (cA0, ty)) (hnm : ∀ cA : ClassId, va_RA s cA ty → s.vm.findClass ("[" ++ ty.toString) = some cA)
    {n : Int32} {N' : Nat} {a0 : vp_A} (ha : ∀ cA : ClassId, vp_cell cA a0 = arrV cA N' (fun _ => defaultValue ty)) (hn : ¬ n < 0) (hN : n.toNatClampNeg = N') (hbytes : N' * componentBytes ty ≤ 536870912) (hcells : cells + 1 ≤ R.cells) (hslots : slots + N' ≤ R.slots) (hdg : decode cc pc = .ok (.newarray atype, 2))
    (kk : ∀ (q : Nat) (H1 : Heap) (L1 : List Nat) (f1 : HP), q ∉ L → (∀ b, b ∈ L → b ∈ L1) → q ∈ L1 → f1 q = .inl (cA0, a0) → (∀ b, b ∈ L → f1 b = f b) → va_P D vwCl (va_pl L1 f1) H1 → va_D A (va_pl L1 f1) → va_S A H0 H1 locs →
      W p l e R s m args below meth c H1 locs (cells + 1) (slots + N') Q (F0 m (pc + 2) ls (.ref q :: rest))) : W p l e R s m args below meth c H locs cells slots Q (F0 m pc ls (.int n :: rest)) := by
  refine va_newa hexec hb harr hty hK hP hD hS hA ha hn hN hbytes hcells hslots hdg fun q cA H1 h0 h1 h2 h3 => ?_
  have e1 := hnm cA ((h0.2 tys.length (cA, ty) (by simp)).2)
  have e2 := hnm cA0 ((hK.2 t0 _ ht).2)
  have e3 : cA = cA0 := Option.some.inj (e1.symm.trans e2)
  subst e3
  exact pl_grow h1 h2 (fun L1 f1 g0 g1 g2 g3 g4 g5 g6 => kk q H1 L1 f1 g0 g1 g2 g3 g4 g5 g6 h3)
theorem pl_newq (hexec : p.tables.exec = Jvm.exec) (hb : c.code = cc) {own C : String} {index : Nat} (hown : s.vm.findClass own = some m.cls) (hclink : (Cond.classLink own index C).before args s = true) (hover : va_AO C s) (hK : va_K D vwCl tys s) (hP : va_P D vwCl (va_pl L f) H) (hD : va_D A (va_pl L f)) (hS : va_S A H0 H locs) (hA : ∀ q, H0.size ≤ q → A q) (t0 : Nat) {cA0 : ClassId} (ht : tys[t0]? = some (cA0, .object C))
    {n : Int32} {N' : Nat} (hn : ¬ n < 0) (hN : n.toNatClampNeg = N') (hbytes : N' * 4 ≤ 536870912) (hcells : cells + 1 ≤ R.cells) (hslots : slots + N' ≤ R.slots) (hdg : decode cc pc = .ok (.anewarray index, 3))
    (kk : ∀ (q : Nat) (H1 : Heap) (L1 : List Nat) (f1 : HP), q ∉ L → (∀ b, b ∈ L → b ∈ L1) → q ∈ L1 → f1 q = .inl (cA0, N', .inr (.inr (.inr (.inr (fun _ => none))))) → (∀ b, b ∈ L → f1 b = f b) → va_P D vwCl (va_pl L1 f1) H1 → va_D A (va_pl L1 f1) → va_S A H0 H1 locs →
      W p l e R s m args below meth c H1 locs (cells + 1) (slots + N') Q (F0 m (pc + 3) ls (.ref q :: rest))) : W p l e R s m args below meth c H locs cells slots Q (F0 m pc ls (.int n :: rest)) := by
  refine va_newq hexec hb hown hclink hover hK hP hD hS hA hn hN hbytes hcells hslots hdg fun q cA H1 h0 h1 h2 h3 => ?_
  obtain ⟨-, -, -, -, -, e1⟩ := (h0.2 tys.length (cA, .object C) (by simp)).2
  obtain ⟨-, -, -, -, -, e2⟩ := (hK.2 t0 _ ht).2
  have e3 : cA = cA0 := Option.some.inj (e1.symm.trans e2)
  subst e3
  exact pl_grow h1 h2 (fun L1 f1 g0 g1 g2 g3 g4 g5 g6 => kk q H1 L1 f1 g0 g1 g2 g3 g4 g5 g6 h3)
theorem pl_astq (hexec : p.tables.exec = Jvm.exec) (hb : c.code = cc) (hK : va_K D vwCl tys s) (hP : va_P D vwCl (va_pl L f) H) (hD : va_D A (va_pl L f)) (hS : va_S A H0 H locs) (hm : a ∈ L) (t0 ci : Nat) {cA : ClassId} {r : vw_C} {n v : Nat} {vs : List Value} {fr : Nat → Option Nat} (hf : f a = .inl (cA, n, .inr (.inr (.inr (.inr fr))))) (ht : tys[t0]? = some (cA, .object r.1)) (hmv : v ∈ L) (hv : f v = .inr (ci, vs)) (hc : vwCl[ci]? = some r) {i : Int32} (hin : vp_in i n) (hdg : decode cc pc = .ok (.aastore, 1))
    (kk : ∀ (H1 : Heap) (locs1 : List Loc) (f1 : HP) (fr1 : Nat → Option Nat), fr1 = va_up fr i.toNatClampNeg (some v) → f1 a = .inl (cA, n, .inr (.inr (.inr (.inr fr1)))) → (∀ b, b ≠ a → f1 b = f b) → va_P D vwCl (va_pl L f1) H1 → va_D A (va_pl L f1) → va_S A H0 H1 locs1 → W p l e R s m args below meth c H1 locs1 cells slots Q (F0 m (pc + 1) ls rest)) : W p l e R s m args below meth c H locs cells slots Q (F0 m pc ls (.ref v :: .int i :: .ref a :: rest)) := by
  obtain ⟨q0, hq⟩ := pl_mem (f := f) hm
  obtain ⟨qk, hqk⟩ := pl_mem (f := f) hmv
  have hq2 := hq
  rw [hf] at hq2
  rw [hv] at hqk
  refine va_astq hexec hb hK hP hD hS q0 t0 qk ci hq2 ht hqk hc hin hdg fun H1 locs1 h1 h2 h3 => ?_
  exact pl_after hD hm hq h1 h2 (fun f1 g1 g2 g3 g4 => kk H1 locs1 f1 _ rfl g1 g2 g3 g4 h3)
theorem ret_i {g : GG} {post : Int32 → (List Nat × HP) → Prop} {mc ms : Nat} {v : Int32} {ty : FieldType} (hexec : p.tables.exec = Jvm.exec) (hb : c.code = cc) (hr : meth.sig.returnType = some ty) (hlocks : meth.locks = false) (hn : narrow ty (.int v) = .int v) (hP : va_P g.1 vwCl (va_pl L f) H) (hD : va_D A (va_pl L f)) (hS : va_S A s.heap H locs) (hc : cells ≤ mc) (hs : slots ≤ ms) (hpost : post v (L, f)) (hdg : decode cc pc = .ok (.ireturn, 1)) :
    W p l e R s m args below meth c H locs cells slots (MQ below (va_Qi post (PstB g A) A) args s mc ms A) (F0 m pc ls [.int v]) := by
  refine W.widen (k := mc) (n := ms) hc hs ?_
  exact W.zret (v := v) hexec hb hr hn (fun t ht hW => ⟨⟨v, (L, f), rfl, hpost, by rw [ht]; exact hP, hD⟩, hS.F ht⟩) hS.2.2 hdg hlocks
theorem ret_l {g : GG} {post : Int64 → (List Nat × HP) → Prop} {mc ms : Nat} {v : Int64} (hexec : p.tables.exec = Jvm.exec) (hb : c.code = cc) (hr : meth.sig.returnType = some .long) (hlocks : meth.locks = false) (hP : va_P g.1 vwCl (va_pl L f) H) (hD : va_D A (va_pl L f)) (hS : va_S A s.heap H locs) (hc : cells ≤ mc) (hs : slots ≤ ms) (hpost : post v (L, f)) (hdg : decode cc pc = .ok (.lreturn, 1)) :
    W p l e R s m args below meth c H locs cells slots (MQ below (va_Ql post (PstB g A) A) args s mc ms A) (F0 m pc ls [.long v]) := by
  refine W.widen (k := mc) (n := ms) hc hs ?_
  exact W.lret (v := v) hexec hb hr (fun t ht hW => ⟨⟨v, (L, f), rfl, hpost, by rw [ht]; exact hP, hD⟩, hS.F ht⟩) hS.2.2 hdg hlocks
theorem ret_v {g : GG} {post : (List Nat × HP) → Prop} {mc ms : Nat} (hexec : p.tables.exec = Jvm.exec) (hb : c.code = cc) (hr : meth.sig.returnType = none) (hlocks : meth.locks = false) (hP : va_P g.1 vwCl (va_pl L f) H) (hD : va_D A (va_pl L f)) (hS : va_S A s.heap H locs) (hc : cells ≤ mc) (hs : slots ≤ ms) (hpost : post (L, f)) (hdg : decode cc pc = .ok (.return_, 1)) :
    W p l e R s m args below meth c H locs cells slots (MQ below (va_Qv post (PstB g A) A) args s mc ms A) (F0 m pc ls []) := by
  refine W.widen (k := mc) (n := ms) hc hs ?_
  exact W.vret hexec hb hr (fun t ht hW => ⟨⟨(L, f), rfl, hpost, by rw [ht]; exact hP, hD⟩, hS.F ht⟩) hS.2.2 hdg hlocks
end ROWS
end
section
/-! CALLS OVER THE POOL -/
def CD (y : MethodName) (n : Nat) : Prop := y.cls ≠ "java/lang/invoke/MethodHandle" ∧ y.cls ≠ "java/lang/invoke/VarHandle" ∧ (parseMethodDescriptor y.desc).map (fun d => d.parameters.length) = some n
/-- an instance method's words; a static one's; a constructor's -/
def CV (y : MethodName) (bytes : ByteArray) (maxL : Nat) (ret : Option FieldType) (n : Nat) : Prop := Cond.code y bytes maxL ret ∈ GW ∧ Cond.initialized y.cls ∈ GW ∧ Cond.instanceMethod y ∈ GW ∧ Cond.selects y.cls y y ∈ GW ∧ CD y n
def CS (y : MethodName) (bytes : ByteArray) (maxL : Nat) (ret : Option FieldType) (n : Nat) : Prop := Cond.code y bytes maxL ret ∈ GW ∧ Cond.initialized y.cls ∈ GW ∧ Cond.static y ∈ GW ∧ CD y n
def CI (y : MethodName) (bytes : ByteArray) (maxL : Nat) (n : Nat) : Prop := Cond.code y bytes maxL none ∈ GW ∧ Cond.initialized y.cls ∈ GW ∧ Cond.instanceMethod y ∈ GW ∧ CD y n ∧ y.name = "<init>"
theorem reg_of {L : List Nat} {f : HP} {A : Nat → Prop} {H0 H : Heap} {locs : List Loc} (hD : va_D A (va_pl L f)) (hS : va_S A H0 H locs) (hA : ∀ q, H0.size ≤ q → A q) : ∀ q, Rg L f H.size q → A q := by
  intro q h
  rcases h with ⟨k, e, hk⟩ | h
  · exact hD.2 k _ hk
  · exact hA q (Nat.le_trans hS.1 h)
theorem pre_of {g : GG} {L : List Nat} {f : HP} {A : Nat → Prop} {s : State} {H : Heap} {locs : List Loc} (hG : GK g s) (hE : SW g A s s.heap) (hA : ∀ q, s.heap.size ≤ q → A q) (hP : va_P g.1 vwCl (va_pl L f) H) (hD : va_D A (va_pl L f)) (hS : va_S A s.heap H locs) : ∀ U : State, U.heap = H → s.WarmedH U.vm → PreB g L f H.size U := by
  intro U hU hW
  refine ⟨by rw [hU], by rw [hU]; exact hP, hG.warm hW, hD.weaken (fun _ _ _ _ => trivial), ?_⟩
  rw [hU]
  exact SW.moved hW.alike (SW.narrow (SW.kept hE (fun a h1 h2 => hS.2.1 a h1 h2)) (reg_of hD hS hA))
section CALLS
variable {p : Program} {l : Launch} {e : Env} {R : Room} {s : State} {m : MethodId} {args : Array Value} {below : List Frame} {meth : Method} {c : Code} {H : Heap} {locs : List Loc} {cells slots : Nat} {Q : State → Prop} {cc : ByteArray} {pc : Nat} {ls : Array Slot} {rest st : List Value} {g : GG} {L : List Nat} {f : HP} {A : Nat → Prop} {a : Nat}
variable {y : MethodName} {bytes : ByteArray} {maxL nL n index : Nat} {ret : Option FieldType} {rm : Room} {Qc : Array Value → State → Outcome → State → Prop} {free : Addr → Prop} {d0 : Cond} {own : String} {b : Nat} {As : List Value}
theorem run_V (hx : p.tables.exec = Jvm.exec) (hb : c.code = cc) (hml : c.maxLocals = nL) (hown : s.vm.findClass own = some m.cls) (hts : ∀ w ∈ d0 :: GW, w.before args s = true)
    (hM : Met l y (Cond.code y bytes maxL ret :: GW) rm (va_Pc (.ref b :: As) (PreB g L f H.size)) Qc rm.cells rm.slots free) (hv : CV y bytes maxL ret n) (hl : Cond.methodLink own index y ∈ GW) (hR : rm.frames + 1 ≤ R.frames ∧ 8 + (maxL + 11) + rm.locals ≤ R.locals)
    (hG : GK g s) (hE : SW g A s s.heap) (hA : ∀ q, s.heap.size ≤ q → A q) (hP : va_P g.1 vwCl (va_pl L f) H) (hD : va_D A (va_pl L f)) (hS : va_S A s.heap H locs)
    (hm : b ∈ L) {ci : Nat} {fs : List Value} (hf : f b = .inr (ci, fs)) {T : u_T} {N : Nat} (hc : vwCl[ci]? = some (y.cls, T, N)) (hn : As.length = n) (hsz : ls.size = nL) (hst : st = As.reverse ++ .ref b :: rest) (hW : (rest.map fun v => v.category).sum ≤ 8) (hdg : decode cc pc = .ok (.invokevirtual index, 3)) (hroom : cells + rm.cells ≤ R.cells ∧ slots + rm.slots ≤ R.slots) :
    va_Run p l e R s m args below meth c H locs cells slots rm.cells rm.slots (F0 m pc ls st) rest (Qc (Value.ref b :: As).toArray) free := by
  obtain ⟨h1, h2, h3, h4, h5⟩ := hv
  obtain ⟨q0, hq⟩ := pl_mem (f := f) hm
  rw [hf] at hq
  refine va_runV (C := y.cls) (n := n) ⟨hx, hb, hml, hown, hts⟩ hM ⟨callB_of n hts (goodIn_GW h1) rfl rfl rfl (hts _ (mT h2)) (hts _ (mT hl)) h5 hR, hts _ (mT h3), hts _ (mT h4)⟩ ⟨pre_blind, va_recv hG.1 hP hc hq, fun U hU hW => ⟨rfl, pre_of hG hE hA hP hD hS U hU hW⟩⟩ rfl hn hsz hst (lv_room hW) hdg hroom
theorem run_VN {host : String} (hx : p.tables.exec = Jvm.exec) (hb : c.code = cc) (hml : c.maxLocals = nL) (hown : s.vm.findClass own = some m.cls) (hts : ∀ w ∈ d0 :: GW, w.before args s = true)
    (hM : Met l y (Cond.code y bytes maxL ret :: GW) rm (va_Pc (.ref b :: As) (PreB g L f H.size)) Qc rm.cells rm.slots free) (hv : CV y bytes maxL ret n) (hl : Cond.methodLinkNest own index y host ∈ NW) (hR : rm.frames + 1 ≤ R.frames ∧ 8 + (maxL + 11) + rm.locals ≤ R.locals)
    (hG : GK g s) (hE : SW g A s s.heap) (hA : ∀ q, s.heap.size ≤ q → A q) (hP : va_P g.1 vwCl (va_pl L f) H) (hD : va_D A (va_pl L f)) (hS : va_S A s.heap H locs)
    (hm : b ∈ L) {ci : Nat} {fs : List Value} (hf : f b = .inr (ci, fs)) {T : u_T} {N : Nat} (hc : vwCl[ci]? = some (y.cls, T, N)) (hn : As.length = n) (hsz : ls.size = nL) (hst : st = As.reverse ++ .ref b :: rest) (hW : (rest.map fun v => v.category).sum ≤ 8) (hdg : decode cc pc = .ok (.invokevirtual index, 3)) (hroom : cells + rm.cells ≤ R.cells ∧ slots + rm.slots ≤ R.slots) :
    va_Run p l e R s m args below meth c H locs cells slots rm.cells rm.slots (F0 m pc ls st) rest (Qc (Value.ref b :: As).toArray) free := by
  obtain ⟨h1, h2, h3, h4, h5⟩ := hv
  obtain ⟨q0, hq⟩ := pl_mem (f := f) hm
  rw [hf] at hq
  refine va_runVN (C := y.cls) (n := n) ⟨hx, hb, hml, hown, hts⟩ hM ⟨va_cnB n hts (goodIn_GW h1) rfl rfl rfl (hG.2.1 _ hl) (hts _ (mT h2)) h5 hR, hts _ (mT h3), hts _ (mT h4)⟩ ⟨pre_blind, va_recv hG.1 hP hc hq, fun U hU hW => ⟨rfl, pre_of hG hE hA hP hD hS U hU hW⟩⟩ rfl hn hsz hst (lv_room hW) hdg hroom
theorem run_S (hx : p.tables.exec = Jvm.exec) (hb : c.code = cc) (hml : c.maxLocals = nL) (hown : s.vm.findClass own = some m.cls) (hts : ∀ w ∈ d0 :: GW, w.before args s = true)
    (hM : Met l y (Cond.code y bytes maxL ret :: GW) rm (va_Pc As (PreB g L f H.size)) Qc rm.cells rm.slots free) (hv : CS y bytes maxL ret n) (hl : Cond.methodLink own index y ∈ GW) (hR : rm.frames + 1 ≤ R.frames ∧ 8 + (maxL + 11) + rm.locals ≤ R.locals)
    (hG : GK g s) (hE : SW g A s s.heap) (hA : ∀ q, s.heap.size ≤ q → A q) (hP : va_P g.1 vwCl (va_pl L f) H) (hD : va_D A (va_pl L f)) (hS : va_S A s.heap H locs)
    (hn : As.length = n) (hsz : ls.size = nL) (hst : st = As.reverse ++ rest) (hW : (rest.map fun v => v.category).sum ≤ 8) (hdg : decode cc pc = .ok (.invokestatic index, 3)) (hroom : cells + rm.cells ≤ R.cells ∧ slots + rm.slots ≤ R.slots) :
    va_Run p l e R s m args below meth c H locs cells slots rm.cells rm.slots (F0 m pc ls st) rest (Qc As.toArray) free := by
  obtain ⟨h1, h2, h3, h5⟩ := hv
  refine va_runS (n := n) ⟨hx, hb, hml, hown, hts⟩ hM ⟨callB_of n hts (goodIn_GW h1) rfl rfl rfl (hts _ (mT h2)) (hts _ (mT hl)) h5 hR, hts _ (mT h3)⟩ ⟨pre_blind, fun U hU hW => ⟨rfl, pre_of hG hE hA hP hD hS U hU hW⟩⟩ rfl hn hsz hst (lv_room hW) hdg hroom
theorem run_SN {host : String} (hx : p.tables.exec = Jvm.exec) (hb : c.code = cc) (hml : c.maxLocals = nL) (hown : s.vm.findClass own = some m.cls) (hts : ∀ w ∈ d0 :: GW, w.before args s = true)
    (hM : Met l y (Cond.code y bytes maxL ret :: GW) rm (va_Pc As (PreB g L f H.size)) Qc rm.cells rm.slots free) (hv : CS y bytes maxL ret n) (hl : Cond.methodLinkNest own index y host ∈ NW) (hR : rm.frames + 1 ≤ R.frames ∧ 8 + (maxL + 11) + rm.locals ≤ R.locals)
    (hG : GK g s) (hE : SW g A s s.heap) (hA : ∀ q, s.heap.size ≤ q → A q) (hP : va_P g.1 vwCl (va_pl L f) H) (hD : va_D A (va_pl L f)) (hS : va_S A s.heap H locs)
    (hn : As.length = n) (hsz : ls.size = nL) (hst : st = As.reverse ++ rest) (hW : (rest.map fun v => v.category).sum ≤ 8) (hdg : decode cc pc = .ok (.invokestatic index, 3)) (hroom : cells + rm.cells ≤ R.cells ∧ slots + rm.slots ≤ R.slots) :
    va_Run p l e R s m args below meth c H locs cells slots rm.cells rm.slots (F0 m pc ls st) rest (Qc As.toArray) free := by
  obtain ⟨h1, h2, h3, h5⟩ := hv
  refine va_runSN (n := n) ⟨hx, hb, hml, hown, hts⟩ hM ⟨va_cnB n hts (goodIn_GW h1) rfl rfl rfl (hG.2.1 _ hl) (hts _ (mT h2)) h5 hR, hts _ (mT h3), trivial⟩ ⟨pre_blind, fun U hU hW => ⟨rfl, pre_of hG hE hA hP hD hS U hU hW⟩⟩ rfl hn hsz hst (lv_room hW) hdg hroom
theorem run_I (hx : p.tables.exec = Jvm.exec) (hb : c.code = cc) (hml : c.maxLocals = nL) (hown : s.vm.findClass own = some m.cls) (hts : ∀ w ∈ d0 :: GW, w.before args s = true)
    (hM : Met l y (Cond.code y bytes maxL none :: GW) rm (va_Pc (.ref b :: As) (PreB g L f H.size)) Qc rm.cells rm.slots free) (hv : CI y bytes maxL n) (hl : Cond.methodLink own index y ∈ GW) (hR : rm.frames + 1 ≤ R.frames ∧ 8 + (maxL + 11) + rm.locals ≤ R.locals)
    (hG : GK g s) (hE : SW g A s s.heap) (hA : ∀ q, s.heap.size ≤ q → A q) (hP : va_P g.1 vwCl (va_pl L f) H) (hD : va_D A (va_pl L f)) (hS : va_S A s.heap H locs)
    (hn : As.length = n) (hsz : ls.size = nL) (hst : st = As.reverse ++ .ref b :: rest) (hW : (rest.map fun v => v.category).sum ≤ 8) (hdg : decode cc pc = .ok (.invokespecial index, 3)) (hroom : cells + rm.cells ≤ R.cells ∧ slots + rm.slots ≤ R.slots) :
    va_Run p l e R s m args below meth c H locs cells slots rm.cells rm.slots (F0 m pc ls st) rest (Qc (Value.ref b :: As).toArray) free := by
  obtain ⟨h1, h2, h3, h5, h6⟩ := hv
  refine va_runI (n := n) ⟨hx, hb, hml, hown, hts⟩ hM ⟨callB_of n hts (goodIn_GW h1) rfl rfl rfl (hts _ (mT h2)) (hts _ (mT hl)) h5 hR, h6, hts _ (mT h3)⟩ ⟨pre_blind, fun U hU hW => ⟨rfl, pre_of hG hE hA hP hD hS U hU hW⟩⟩ rfl hn hsz hst (lv_room hW) hdg hroom
theorem run_IN {host : String} (hx : p.tables.exec = Jvm.exec) (hb : c.code = cc) (hml : c.maxLocals = nL) (hown : s.vm.findClass own = some m.cls) (hts : ∀ w ∈ d0 :: GW, w.before args s = true)
    (hM : Met l y (Cond.code y bytes maxL none :: GW) rm (va_Pc (.ref b :: As) (PreB g L f H.size)) Qc rm.cells rm.slots free) (hv : CI y bytes maxL n) (hl : Cond.methodLinkNest own index y host ∈ NW) (hR : rm.frames + 1 ≤ R.frames ∧ 8 + (maxL + 11) + rm.locals ≤ R.locals)
    (hG : GK g s) (hE : SW g A s s.heap) (hA : ∀ q, s.heap.size ≤ q → A q) (hP : va_P g.1 vwCl (va_pl L f) H) (hD : va_D A (va_pl L f)) (hS : va_S A s.heap H locs)
    (hn : As.length = n) (hsz : ls.size = nL) (hst : st = As.reverse ++ .ref b :: rest) (hW : (rest.map fun v => v.category).sum ≤ 8) (hdg : decode cc pc = .ok (.invokespecial index, 3)) (hroom : cells + rm.cells ≤ R.cells ∧ slots + rm.slots ≤ R.slots) :
    va_Run p l e R s m args below meth c H locs cells slots rm.cells rm.slots (F0 m pc ls st) rest (Qc (Value.ref b :: As).toArray) free := by
  obtain ⟨h1, h2, h3, h5, h6⟩ := hv
  refine va_runIN (n := n) ⟨hx, hb, hml, hown, hts⟩ hM ⟨va_cnB n hts (goodIn_GW h1) rfl rfl rfl (hG.2.1 _ hl) (hts _ (mT h2)) h5 hR, h6, hts _ (mT h3)⟩ ⟨pre_blind, fun U hU hW => ⟨rfl, pre_of hG hE hA hP hD hS U hU hW⟩⟩ rfl hn hsz hst (lv_room hW) hdg hroom
theorem call_i {post : Int32 → (List Nat × HP) → Prop} {mc ms : Nat} {aa : Array Value} {H0 : Heap} (hr : va_Run p l e R s m args below meth c H locs cells slots mc ms (F0 m pc ls st) rest (va_Qi post (PstB g (Rg L f H.size)) (Rg L f H.size) aa) (Rg L f H.size)) (hA : ∀ q, H0.size ≤ q → A q) (hD : va_D A (va_pl L f)) (hS : va_S A H0 H locs)
    (kk : ∀ (r : Int32) (L1 : List Nat) (f1 : HP) (H1 : Heap) (locs1 : List Loc), post r (L1, f1) → va_P g.1 vwCl (va_pl L1 f1) H1 → va_D A (va_pl L1 f1) → va_S A H0 H1 locs1 → W p l e R s m args below meth c H1 locs1 (cells + mc) (slots + ms) Q (F0 m (pc + 3) ls (.int r :: rest))) : W p l e R s m args below meth c H locs cells slots Q (F0 m pc ls st) := by
  have hF := reg_of hD hS hA
  refine va_calli hr hS (fun q _ h => hF q h) hF (fun r u t H1 locs1 ht hvm hw hB hz1 hk1 hS1 => ?_)
  obtain ⟨hP1, hD1⟩ := hB
  rw [ht] at hP1
  exact kk r u.1 u.2 H1 locs1 hw hP1 (hD1.weaken (fun _ q _ h => hF q.1 h)) hS1
theorem call_l {post : Int64 → (List Nat × HP) → Prop} {mc ms : Nat} {aa : Array Value} {H0 : Heap} (hr : va_Run p l e R s m args below meth c H locs cells slots mc ms (F0 m pc ls st) rest (va_Ql post (PstB g (Rg L f H.size)) (Rg L f H.size) aa) (Rg L f H.size)) (hA : ∀ q, H0.size ≤ q → A q) (hD : va_D A (va_pl L f)) (hS : va_S A H0 H locs)
    (kk : ∀ (r : Int64) (L1 : List Nat) (f1 : HP) (H1 : Heap) (locs1 : List Loc), post r (L1, f1) → va_P g.1 vwCl (va_pl L1 f1) H1 → va_D A (va_pl L1 f1) → va_S A H0 H1 locs1 → W p l e R s m args below meth c H1 locs1 (cells + mc) (slots + ms) Q (F0 m (pc + 3) ls (.long r :: rest))) : W p l e R s m args below meth c H locs cells slots Q (F0 m pc ls st) := by
  have hF := reg_of hD hS hA
  refine va_calll hr hS (fun q _ h => hF q h) hF (fun r u t H1 locs1 ht hvm hw hB hz1 hk1 hS1 => ?_)
  obtain ⟨hP1, hD1⟩ := hB
  rw [ht] at hP1
  exact kk r u.1 u.2 H1 locs1 hw hP1 (hD1.weaken (fun _ q _ h => hF q.1 h)) hS1
theorem call_v {post : (List Nat × HP) → Prop} {mc ms : Nat} {aa : Array Value} {H0 : Heap} (hr : va_Run p l e R s m args below meth c H locs cells slots mc ms (F0 m pc ls st) rest (va_Qv post (PstB g (Rg L f H.size)) (Rg L f H.size) aa) (Rg L f H.size)) (hA : ∀ q, H0.size ≤ q → A q) (hD : va_D A (va_pl L f)) (hS : va_S A H0 H locs)
    (kk : ∀ (L1 : List Nat) (f1 : HP) (H1 : Heap) (locs1 : List Loc), post (L1, f1) → va_P g.1 vwCl (va_pl L1 f1) H1 → va_D A (va_pl L1 f1) → va_S A H0 H1 locs1 → W p l e R s m args below meth c H1 locs1 (cells + mc) (slots + ms) Q (F0 m (pc + 3) ls rest)) : W p l e R s m args below meth c H locs cells slots Q (F0 m pc ls st) := by
  have hF := reg_of hD hS hA
  refine va_callv hr hS (fun q _ h => hF q h) hF (fun u t H1 locs1 ht hvm hw hB hz1 hk1 hS1 => ?_)
  obtain ⟨hP1, hD1⟩ := hB
  rw [ht] at hP1
  exact kk u.1 u.2 H1 locs1 hw hP1 (hD1.weaken (fun _ q _ h => hF q.1 h)) hS1
end CALLS
/-! a reference comes back; a String is asked -/
def MtR (l : Launch) (g : GG) (y : MethodName) (cc : ByteArray) (n : Nat) (ret : Option FieldType) (rm : Room) (av : List Value) (L : List Nat) (f : HP) (sz : Nat) (post : Nat → (List Nat × HP) → Prop) : Prop :=
  Met l y (Cond.code y cc n ret :: GW) rm (va_Pc av (PreB g L f sz)) (va_Qr (fun _ : List Nat × HP => True) (fun u a t => PstB g (Rg L f sz) u t ∧ post a u) (Rg L f sz)) rm.cells rm.slots (Rg L f sz)
theorem MtR.of {l : Launch} {g : GG} {y : MethodName} {cc : ByteArray} {n : Nat} {ret : Option FieldType} {rm : Room} {av : List Value} {L : List Nat} {f : HP} {sz : Nat} {post : Nat → (List Nat × HP) → Prop} (hy : plainName y.cls = true) (hlen : (lg_sl av).length ≤ n)
    (body : ∀ (p : Program) (e : Env) (s : State) (m : MethodId) (below : List Frame) (meth : Method) (c : Code) (A : Nat → Prop), ENV p e s m av meth c y cc n ret g L f A → va_P g.1 vwCl (va_pl L f) s.heap → va_D A (va_pl L f) → va_S A s.heap s.heap [] → ∀ ls : Array Slot, lv_has ls n (lv_args 0 av) →
      W p l e rm s m av.toArray below meth c s.heap [] 0 0 (MQ below (va_Qr (fun _ : List Nat × HP => True) (fun u a t => PstB g A u t ∧ post a u) A) av.toArray s rm.cells rm.slots A) (F0 m 0 ls [])) : MtR l g y cc n ret rm av L f sz post := by
  refine Met.ofW (cc := cc) (maxL := n) (ret := ret) hy rfl ?_
  intro p e s m args below meth c s₁ B hml hv
  obtain ⟨rfl, rfl, hP, hD, hE⟩ := env_of B hml hv
  have hl := lv_entry av (n := n) hlen
  rw [lg_entry_eq]
  exact body p e s m below meth c _ hE hP hD va_S.rf _ hl
section CALLS2
variable {p : Program} {l : Launch} {e : Env} {R : Room} {s : State} {m : MethodId} {args : Array Value} {below : List Frame} {meth : Method} {c : Code} {H : Heap} {locs : List Loc} {cells slots : Nat} {Q : State → Prop} {cc : ByteArray} {pc : Nat} {ls : Array Slot} {rest st : List Value} {g : GG} {L : List Nat} {f : HP} {A : Nat → Prop} {a : Nat}
variable {y : MethodName} {bytes : ByteArray} {maxL nL n index : Nat} {ret : Option FieldType} {rm : Room} {Qc : Array Value → State → Outcome → State → Prop} {free : Addr → Prop} {d0 : Cond} {own : String} {b : Nat} {As : List Value}
theorem call_r {post : Nat → (List Nat × HP) → Prop} {mc ms : Nat} {aa : Array Value} {H0 : Heap} (hr : va_Run p l e R s m args below meth c H locs cells slots mc ms (F0 m pc ls st) rest (va_Qr (fun _ : List Nat × HP => True) (fun u a t => PstB g (Rg L f H.size) u t ∧ post a u) (Rg L f H.size) aa) (Rg L f H.size)) (hA : ∀ q, H0.size ≤ q → A q) (hD : va_D A (va_pl L f)) (hS : va_S A H0 H locs)
    (kk : ∀ (r : Nat) (L1 : List Nat) (f1 : HP) (H1 : Heap) (locs1 : List Loc), post r (L1, f1) → va_P g.1 vwCl (va_pl L1 f1) H1 → va_D A (va_pl L1 f1) → va_S A H0 H1 locs1 → W p l e R s m args below meth c H1 locs1 (cells + mc) (slots + ms) Q (F0 m (pc + 3) ls (.ref r :: rest))) : W p l e R s m args below meth c H locs cells slots Q (F0 m pc ls st) := by
  have hF := reg_of hD hS hA
  refine va_callr hr hS (fun q _ h => hF q h) hF ?_
  intro u r t H1 locs1 ht hvm hw hB hz1 hk1 hS1
  obtain ⟨⟨hP1, hD1⟩, hpo⟩ := hB
  rw [ht] at hP1
  exact kk r u.1 u.2 H1 locs1 hpo hP1 (hD1.weaken (fun _ q _ h => hF q.1 h)) hS1
theorem ret_r {post : Nat → (List Nat × HP) → Prop} {mc ms : Nat} {v : Nat} {ty : FieldType} (hexec : p.tables.exec = Jvm.exec) (hb : c.code = cc) (hr : meth.sig.returnType = some ty) (hlocks : meth.locks = false) (hn : (∃ n, ty = FieldType.object n) ∨ ∃ t : FieldType, ty = t.array) (hP : va_P g.1 vwCl (va_pl L f) H) (hD : va_D A (va_pl L f)) (hS : va_S A s.heap H locs) (hc : cells ≤ mc) (hs : slots ≤ ms) (hpost : post v (L, f)) (hdg : decode cc pc = .ok (.areturn, 1)) :
    W p l e R s m args below meth c H locs cells slots (MQ below (va_Qr (fun _ : List Nat × HP => True) (fun u a t => PstB g A u t ∧ post a u) A) args s mc ms A) (F0 m pc ls [.ref v]) := by
  refine W.widen (k := mc) (n := ms) hc hs ?_
  exact W.aret (v := .ref v) hexec hb hr hn (Or.inr ⟨v, rfl⟩) (fun t ht hW => ⟨⟨(L, f), v, rfl, trivial, ⟨by rw [ht]; exact hP, hD⟩, hpost⟩, hS.F ht⟩) hS.2.2 hdg hlocks
/-- a method of a String constant -/
theorem run_VJ (hx : p.tables.exec = Jvm.exec) (hb : c.code = cc) (hml : c.maxLocals = nL) (hown : s.vm.findClass own = some m.cls) (hts : ∀ w ∈ d0 :: GW, w.before args s = true)
    {i : Nat} (hi : i < nS) (hM : Met l y (Cond.code y bytes maxL ret :: GW) rm (va_Pc (.ref (g.2.2.1 i) :: As) (PreB g L f H.size)) Qc rm.cells rm.slots free) (hv : CV y bytes maxL ret n) (hl : Cond.methodLink own index y ∈ GW) (hyc : y.cls = "java/lang/String") (hR : rm.frames + 1 ≤ R.frames ∧ 8 + (maxL + 11) + rm.locals ≤ R.locals)
    (hG : GK g s) (hE : SW g A s s.heap) (hA : ∀ q, s.heap.size ≤ q → A q) (hP : va_P g.1 vwCl (va_pl L f) H) (hD : va_D A (va_pl L f)) (hS : va_S A s.heap H locs)
    (hn : As.length = n) (hsz : ls.size = nL) (hst : st = As.reverse ++ .ref (g.2.2.1 i) :: rest) (hW : (rest.map fun v => v.category).sum ≤ 8) (hdg : decode cc pc = .ok (.invokevirtual index, 3)) (hroom : cells + rm.cells ≤ R.cells ∧ slots + rm.slots ≤ R.slots) :
    va_Run p l e R s m args below meth c H locs cells slots rm.cells rm.slots (F0 m pc ls st) rest (Qc (Value.ref (g.2.2.1 i) :: As).toArray) free := by
  obtain ⟨h1, h2, h3, h4, h5⟩ := hv
  obtain ⟨cell, g1, g2, g3, -⟩ := ((hE.1 i hi).1).kept (fun a h1 h2 => hS.2.1 a h1 h2)
  refine va_runV (C := y.cls) (n := n) ⟨hx, hb, hml, hown, hts⟩ hM ⟨callB_of n hts (goodIn_GW h1) rfl rfl rfl (hts _ (mT h2)) (hts _ (mT hl)) h5 hR, hts _ (mT h3), hts _ (mT h4)⟩ ⟨pre_blind, ⟨cell, g1, g2, by rw [hyc]; exact g3⟩, fun U hU hW => ⟨rfl, pre_of hG hE hA hP hD hS U hU hW⟩⟩ rfl hn hsz hst (lv_room hW) hdg hroom
end CALLS2
end
section
theorem wg_objInit : Cond.code objectInit ⟨#[0xb1]⟩ 1 none ∈ GW := mG 188 (by decide +kernel) rfl
theorem wg_490 : Cond.fieldLink "RulerWord" 108 "RulerWord" "convened" "Z" ∈ GW := mG 490 (by decide +kernel) rfl
theorem inX10 : ∀ w ∈ u_ws RX10 TX10 18, w ∈ GW := by
  have h : (u_ws RX10 TX10 18).all (fun w => decide (w ∈ lw_tbl) && goodWord w) = true := by decide +kernel
  intro w hw
  have h1 := List.all_eq_true.mp h w hw
  simp only [Bool.and_eq_true, decide_eq_true_eq] at h1
  exact List.mem_filter.mpr h1
theorem wg_956 : Cond.methodLink "RulerWord" 273 yX10_phasesOver ∈ GW := mG 956 (by decide +kernel) rfl
theorem wg_157 : Cond.initialized "RulerWord" ∈ GW := mG 157 (by decide +kernel) rfl
theorem wg_958 : Cond.instanceMethod yX10_phasesOver ∈ GW := mG 958 (by decide +kernel) rfl
theorem wg_55 : Cond.selects "RulerWord" yX10_phasesOver yX10_phasesOver ∈ GW := mG 55 (by decide +kernel) rfl
theorem cV_X10_phasesOver : CV yX10_phasesOver cX10_phasesOver 1 (some .int) 0 := ⟨mG 959 (by decide +kernel) rfl, wg_157, wg_958, wg_55, by decide +kernel, by decide +kernel, by decide +kernel⟩
theorem wg_489 : Cond.fieldLink "RulerWord" 87 "RulerWord" "refused" "[I" ∈ GW := mG 489 (by decide +kernel) rfl
theorem wg_228 : Cond.fieldLink "RulerWord$Council" 15 "RulerWord$Council" "size" "I" ∈ GW := mG 228 (by decide +kernel) rfl
theorem inX2 : ∀ w ∈ u_ws RX2 TX2 8, w ∈ GW := by
  have h : (u_ws RX2 TX2 8).all (fun w => decide (w ∈ lw_tbl) && goodWord w) = true := by decide +kernel
  intro w hw
  have h1 := List.all_eq_true.mp h w hw
  simp only [Bool.and_eq_true, decide_eq_true_eq] at h1
  exact List.mem_filter.mpr h1
theorem wg_224 : Cond.fieldLink "RulerWord$Council" 9 "RulerWord$Council" "form" "I" ∈ GW := mG 224 (by decide +kernel) rfl
theorem wg_738 : Cond.methodLink "RulerWord$Council" 112 yX2_rounds ∈ GW := mG 738 (by decide +kernel) rfl
theorem wg_159 : Cond.initialized "RulerWord$Council" ∈ GW := mG 159 (by decide +kernel) rfl
theorem wg_740 : Cond.instanceMethod yX2_rounds ∈ GW := mG 740 (by decide +kernel) rfl
theorem wg_21 : Cond.selects "RulerWord$Council" yX2_rounds yX2_rounds ∈ GW := mG 21 (by decide +kernel) rfl
theorem cV_X2_rounds : CV yX2_rounds cX2_rounds 1 (some .int) 0 := ⟨mG 741 (by decide +kernel) rfl, wg_159, wg_740, wg_21, by decide +kernel, by decide +kernel, by decide +kernel⟩
theorem wg_340 : Cond.fieldLink "RulerWord$Course" 47 "RulerWord$Course" "gone" "I" ∈ GW := mG 340 (by decide +kernel) rfl
theorem inX3 : ∀ w ∈ u_ws RX3 TX3 18, w ∈ GW := by
  have h : (u_ws RX3 TX3 18).all (fun w => decide (w ∈ lw_tbl) && goodWord w) = true := by decide +kernel
  intro w hw
  have h1 := List.all_eq_true.mp h w hw
  simp only [Bool.and_eq_true, decide_eq_true_eq] at h1
  exact List.mem_filter.mpr h1
theorem wn_775 : Cond.methodLinkNest "RulerWord$Course" 89 yX2_phaseAt "RulerWord" ∈ NW := mN 775 (by decide +kernel) rfl
theorem wg_736 : Cond.instanceMethod yX2_phaseAt ∈ GW := mG 736 (by decide +kernel) rfl
theorem wg_20 : Cond.selects "RulerWord$Council" yX2_phaseAt yX2_phaseAt ∈ GW := mG 20 (by decide +kernel) rfl
theorem cV_X2_phaseAt : CV yX2_phaseAt cX2_phaseAt 2 (some .int) 1 := ⟨mG 737 (by decide +kernel) rfl, wg_159, wg_736, wg_20, by decide +kernel, by decide +kernel, by decide +kernel⟩
theorem wg_415 : Cond.fieldLink "RulerWord$Acts" 24 "RulerWord$Acts" "depth" "I" ∈ GW := mG 415 (by decide +kernel) rfl
theorem inX0 : ∀ w ∈ u_ws RX0 TX0 3, w ∈ GW := by
  have h : (u_ws RX0 TX0 3).all (fun w => decide (w ∈ lw_tbl) && goodWord w) = true := by decide +kernel
  intro w hw
  have h1 := List.all_eq_true.mp h w hw
  simp only [Bool.and_eq_true, decide_eq_true_eq] at h1
  exact List.mem_filter.mpr h1
theorem wg_751 : Cond.methodLink "RulerWord" 183 yX10_roundsLeft ∈ GW := mG 751 (by decide +kernel) rfl
theorem wg_753 : Cond.instanceMethod yX10_roundsLeft ∈ GW := mG 753 (by decide +kernel) rfl
theorem wg_23 : Cond.selects "RulerWord" yX10_roundsLeft yX10_roundsLeft ∈ GW := mG 23 (by decide +kernel) rfl
theorem cV_X10_roundsLeft : CV yX10_roundsLeft cX10_roundsLeft 1 (some .int) 0 := ⟨mG 754 (by decide +kernel) rfl, wg_157, wg_753, wg_23, by decide +kernel, by decide +kernel, by decide +kernel⟩
theorem wg_897 : Cond.methodLink "RulerWord" 217 yX10_isPeer ∈ GW := mG 897 (by decide +kernel) rfl
theorem wg_899 : Cond.instanceMethod yX10_isPeer ∈ GW := mG 899 (by decide +kernel) rfl
theorem wg_46 : Cond.selects "RulerWord" yX10_isPeer yX10_isPeer ∈ GW := mG 46 (by decide +kernel) rfl
theorem cV_X10_isPeer : CV yX10_isPeer cX10_isPeer 2 (some .boolean) 1 := ⟨mG 900 (by decide +kernel) rfl, wg_157, wg_899, wg_46, by decide +kernel, by decide +kernel, by decide +kernel⟩
theorem wg_475 : Cond.fieldLink "RulerWord" 10 "RulerWord" "tape" "LRulerWord$Tape;" ∈ GW := mG 475 (by decide +kernel) rfl
theorem wn_197 : Cond.fieldLinkNest "RulerWord" 91 "RulerWord$Tape" "length" "I" "RulerWord" ∈ NW := mN 197 (by decide +kernel) rfl
theorem inX8 : ∀ w ∈ u_ws RX8 TX8 5, w ∈ GW := by
  have h : (u_ws RX8 TX8 5).all (fun w => decide (w ∈ lw_tbl) && goodWord w) = true := by decide +kernel
  intro w hw
  have h1 := List.all_eq_true.mp h w hw
  simp only [Bool.and_eq_true, decide_eq_true_eq] at h1
  exact List.mem_filter.mpr h1
theorem wg_733 : Cond.constant "RulerWord" 144 (-1000000) ∈ GW := mG 733 (by decide +kernel) rfl
theorem wg_480 : Cond.fieldLink "RulerWord" 39 "RulerWord" "planned" "LRulerWord$Planned;" ∈ GW := mG 480 (by decide +kernel) rfl
theorem wn_289 : Cond.fieldLinkNest "RulerWord" 135 "RulerWord$Planned" "plan" "LRulerWord$Plan;" "RulerWord" ∈ NW := mN 289 (by decide +kernel) rfl
theorem inX6 : ∀ w ∈ u_ws RX6 TX6 3, w ∈ GW := by
  have h : (u_ws RX6 TX6 3).all (fun w => decide (w ∈ lw_tbl) && goodWord w) = true := by decide +kernel
  intro w hw
  have h1 := List.all_eq_true.mp h w hw
  simp only [Bool.and_eq_true, decide_eq_true_eq] at h1
  exact List.mem_filter.mpr h1
theorem wn_271 : Cond.fieldLinkNest "RulerWord" 141 "RulerWord$Plan" "lines" "I" "RulerWord" ∈ NW := mN 271 (by decide +kernel) rfl
theorem inX5 : ∀ w ∈ u_ws RX5 TX5 2, w ∈ GW := by
  have h : (u_ws RX5 TX5 2).all (fun w => decide (w ∈ lw_tbl) && goodWord w) = true := by decide +kernel
  intro w hw
  have h1 := List.all_eq_true.mp h w hw
  simp only [Bool.and_eq_true, decide_eq_true_eq] at h1
  exact List.mem_filter.mpr h1
theorem wg_889 : Cond.methodLink "RulerWord" 194 yX10_whyNotSaid ∈ GW := mG 889 (by decide +kernel) rfl
theorem wg_891 : Cond.instanceMethod yX10_whyNotSaid ∈ GW := mG 891 (by decide +kernel) rfl
theorem wg_44 : Cond.selects "RulerWord" yX10_whyNotSaid yX10_whyNotSaid ∈ GW := mG 44 (by decide +kernel) rfl
theorem cV_X10_whyNotSaid : CV yX10_whyNotSaid cX10_whyNotSaid 6 (some .int) 5 := ⟨mG 892 (by decide +kernel) rfl, wg_157, wg_891, wg_44, by decide +kernel, by decide +kernel, by decide +kernel⟩
theorem wg_906 : Cond.methodLink "RulerWord" 198 yX10_refuse ∈ GW := mG 906 (by decide +kernel) rfl
theorem wg_908 : Cond.instanceMethod yX10_refuse ∈ GW := mG 908 (by decide +kernel) rfl
theorem wg_48 : Cond.selects "RulerWord" yX10_refuse yX10_refuse ∈ GW := mG 48 (by decide +kernel) rfl
theorem cV_X10_refuse : CV yX10_refuse cX10_refuse 2 (some .int) 1 := ⟨mG 909 (by decide +kernel) rfl, wg_157, wg_908, wg_48, by decide +kernel, by decide +kernel, by decide +kernel⟩
theorem wg_477 : Cond.fieldLink "RulerWord" 23 "RulerWord" "council" "LRulerWord$Council;" ∈ GW := mG 477 (by decide +kernel) rfl
theorem wn_918 : Cond.methodLinkNest "RulerWord" 205 yX2_everybody "RulerWord" ∈ NW := mN 918 (by decide +kernel) rfl
theorem wg_920 : Cond.instanceMethod yX2_everybody ∈ GW := mG 920 (by decide +kernel) rfl
theorem wg_50 : Cond.selects "RulerWord$Council" yX2_everybody yX2_everybody ∈ GW := mG 50 (by decide +kernel) rfl
theorem cV_X2_everybody : CV yX2_everybody cX2_everybody 1 (some .int) 0 := ⟨mG 921 (by decide +kernel) rfl, wg_159, wg_920, wg_50, by decide +kernel, by decide +kernel, by decide +kernel⟩
theorem wg_922 : Cond.methodLink "RulerWord" 208 yX10_whyNotTold ∈ GW := mG 922 (by decide +kernel) rfl
theorem wg_924 : Cond.instanceMethod yX10_whyNotTold ∈ GW := mG 924 (by decide +kernel) rfl
theorem wg_51 : Cond.selects "RulerWord" yX10_whyNotTold yX10_whyNotTold ∈ GW := mG 51 (by decide +kernel) rfl
theorem cV_X10_whyNotTold : CV yX10_whyNotTold cX10_whyNotTold 3 (some .int) 2 := ⟨mG 925 (by decide +kernel) rfl, wg_157, wg_924, wg_51, by decide +kernel, by decide +kernel, by decide +kernel⟩
theorem wg_483 : Cond.fieldLink "RulerWord" 60 "RulerWord" "now" "LRulerWord$Course;" ∈ GW := mG 483 (by decide +kernel) rfl
theorem wn_968 : Cond.methodLinkNest "RulerWord" 269 yX3_agreedFrom "RulerWord" ∈ NW := mN 968 (by decide +kernel) rfl
theorem wg_165 : Cond.initialized "RulerWord$Course" ∈ GW := mG 165 (by decide +kernel) rfl
theorem wg_970 : Cond.instanceMethod yX3_agreedFrom ∈ GW := mG 970 (by decide +kernel) rfl
theorem wg_56 : Cond.selects "RulerWord$Course" yX3_agreedFrom yX3_agreedFrom ∈ GW := mG 56 (by decide +kernel) rfl
theorem cV_X3_agreedFrom : CV yX3_agreedFrom cX3_agreedFrom 4 (some .int) 1 := ⟨mG 971 (by decide +kernel) rfl, wg_165, wg_970, wg_56, by decide +kernel, by decide +kernel, by decide +kernel⟩
theorem wg_1013 : Cond.methodLink "RulerWord" 303 yX10_greatestBound ∈ GW := mG 1013 (by decide +kernel) rfl
theorem wg_674 : Cond.static yX10_greatestBound ∈ GW := mG 674 (by decide +kernel) rfl
theorem cS_X10_greatestBound : CS yX10_greatestBound cX10_greatestBound 2 (some .int) 2 := ⟨mG 675 (by decide +kernel) rfl, wg_157, wg_674, by decide +kernel, by decide +kernel, by decide +kernel⟩
theorem wn_339 : Cond.fieldLinkNest "RulerWord" 155 "RulerWord$Course" "falses" "I" "RulerWord" ∈ NW := mN 339 (by decide +kernel) rfl
theorem wg_1032 : Cond.methodLink "RulerWord" 309 yX10_isAsked ∈ GW := mG 1032 (by decide +kernel) rfl
theorem wg_1034 : Cond.instanceMethod yX10_isAsked ∈ GW := mG 1034 (by decide +kernel) rfl
theorem wg_63 : Cond.selects "RulerWord" yX10_isAsked yX10_isAsked ∈ GW := mG 63 (by decide +kernel) rfl
theorem cV_X10_isAsked : CV yX10_isAsked cX10_isAsked 2 (some .boolean) 1 := ⟨mG 1035 (by decide +kernel) rfl, wg_157, wg_1034, wg_63, by decide +kernel, by decide +kernel, by decide +kernel⟩
theorem wg_1126 : Cond.methodLink "RulerWord" 325 yX10_broken ∈ GW := mG 1126 (by decide +kernel) rfl
theorem wg_1029 : Cond.instanceMethod yX10_broken ∈ GW := mG 1029 (by decide +kernel) rfl
theorem wg_1030 : Cond.selects "RulerWord" yX10_broken yX10_broken ∈ GW := mG 1030 (by decide +kernel) rfl
theorem cV_X10_broken : CV yX10_broken cX10_broken 1 (some .int) 0 := ⟨mG 1031 (by decide +kernel) rfl, wg_157, wg_1029, wg_1030, by decide +kernel, by decide +kernel, by decide +kernel⟩
theorem wg_952 : Cond.methodLink "RulerWord" 241 yX10_isOver ∈ GW := mG 952 (by decide +kernel) rfl
theorem wg_954 : Cond.instanceMethod yX10_isOver ∈ GW := mG 954 (by decide +kernel) rfl
theorem wg_54 : Cond.selects "RulerWord" yX10_isOver yX10_isOver ∈ GW := mG 54 (by decide +kernel) rfl
theorem cV_X10_isOver : CV yX10_isOver cX10_isOver 2 (some .boolean) 1 := ⟨mG 955 (by decide +kernel) rfl, wg_157, wg_954, wg_54, by decide +kernel, by decide +kernel, by decide +kernel⟩
theorem wg_486 : Cond.fieldLink "RulerWord" 73 "RulerWord" "acts" "LRulerWord$Acts;" ∈ GW := mG 486 (by decide +kernel) rfl
theorem wn_1210 : Cond.methodLinkNest "RulerWord" 380 yX0_takeBack "RulerWord" ∈ NW := mN 1210 (by decide +kernel) rfl
theorem wg_166 : Cond.initialized "RulerWord$Acts" ∈ GW := mG 166 (by decide +kernel) rfl
theorem wg_1212 : Cond.instanceMethod yX0_takeBack ∈ GW := mG 1212 (by decide +kernel) rfl
theorem wg_89 : Cond.selects "RulerWord$Acts" yX0_takeBack yX0_takeBack ∈ GW := mG 89 (by decide +kernel) rfl
theorem cV_X0_takeBack : CV yX0_takeBack cX0_takeBack 2 (some .boolean) 1 := ⟨mG 1213 (by decide +kernel) rfl, wg_166, wg_1212, wg_89, by decide +kernel, by decide +kernel, by decide +kernel⟩
theorem wg_491 : Cond.fieldLink "RulerWord" 112 "RulerWord" "imaged" "Z" ∈ GW := mG 491 (by decide +kernel) rfl
theorem wn_416 : Cond.fieldLinkNest "RulerWord" 119 "RulerWord$Acts" "depth" "I" "RulerWord" ∈ NW := mN 416 (by decide +kernel) rfl
theorem wn_341 : Cond.fieldLinkNest "RulerWord" 159 "RulerWord$Course" "gone" "I" "RulerWord" ∈ NW := mN 341 (by decide +kernel) rfl
end
section
theorem dX0_takeBack_0 : decode cX0_takeBack 0 = .ok (.aload_n 0, 1) := by decide +kernel
theorem dX0_takeBack_1 : decode cX0_takeBack 1 = .ok (.getfield 24, 3) := by decide +kernel
theorem dX0_takeBack_4 : decode cX0_takeBack 4 = .ok (.iconst 1, 1) := by decide +kernel
theorem dX0_takeBack_5 : decode cX0_takeBack 5 = .ok (.if_icmp .ge 5, 3) := by decide +kernel
theorem dX0_takeBack_8 : decode cX0_takeBack 8 = .ok (.iconst 0, 1) := by decide +kernel
theorem dX0_takeBack_9 : decode cX0_takeBack 9 = .ok (.ireturn, 1) := by decide +kernel
theorem dX0_takeBack_10 : decode cX0_takeBack 10 = .ok (.aload_n 1, 1) := by decide +kernel
theorem dX0_takeBack_11 : decode cX0_takeBack 11 = .ok (.aload_n 0, 1) := by decide +kernel
theorem dX0_takeBack_12 : decode cX0_takeBack 12 = .ok (.getfield 11, 3) := by decide +kernel
theorem dX0_takeBack_15 : decode cX0_takeBack 15 = .ok (.aload_n 0, 1) := by decide +kernel
theorem dX0_takeBack_16 : decode cX0_takeBack 16 = .ok (.getfield 16, 3) := by decide +kernel
theorem dX0_takeBack_19 : decode cX0_takeBack 19 = .ok (.aaload, 1) := by decide +kernel
theorem dX0_takeBack_20 : decode cX0_takeBack 20 = .ok (.invokevirtual 20, 3) := by decide +kernel
theorem dX0_takeBack_23 : decode cX0_takeBack 23 = .ok (.aload_n 0, 1) := by decide +kernel
theorem dX0_takeBack_24 : decode cX0_takeBack 24 = .ok (.aload_n 0, 1) := by decide +kernel
theorem dX0_takeBack_25 : decode cX0_takeBack 25 = .ok (.getfield 16, 3) := by decide +kernel
theorem dX0_takeBack_28 : decode cX0_takeBack 28 = .ok (.bipush 20, 2) := by decide +kernel
theorem dX0_takeBack_30 : decode cX0_takeBack 30 = .ok (.iadd, 1) := by decide +kernel
theorem dX0_takeBack_31 : decode cX0_takeBack 31 = .ok (.iconst 1, 1) := by decide +kernel
theorem dX0_takeBack_32 : decode cX0_takeBack 32 = .ok (.isub, 1) := by decide +kernel
theorem dX0_takeBack_33 : decode cX0_takeBack 33 = .ok (.bipush 20, 2) := by decide +kernel
theorem dX0_takeBack_35 : decode cX0_takeBack 35 = .ok (.irem, 1) := by decide +kernel
theorem dX0_takeBack_36 : decode cX0_takeBack 36 = .ok (.putfield 16, 3) := by decide +kernel
theorem dX0_takeBack_39 : decode cX0_takeBack 39 = .ok (.aload_n 0, 1) := by decide +kernel
theorem dX0_takeBack_40 : decode cX0_takeBack 40 = .ok (.dup, 1) := by decide +kernel
theorem dX0_takeBack_41 : decode cX0_takeBack 41 = .ok (.getfield 24, 3) := by decide +kernel
theorem dX0_takeBack_44 : decode cX0_takeBack 44 = .ok (.iconst 1, 1) := by decide +kernel
theorem dX0_takeBack_45 : decode cX0_takeBack 45 = .ok (.isub, 1) := by decide +kernel
theorem dX0_takeBack_46 : decode cX0_takeBack 46 = .ok (.putfield 24, 3) := by decide +kernel
theorem dX0_takeBack_49 : decode cX0_takeBack 49 = .ok (.iconst 1, 1) := by decide +kernel
theorem dX0_takeBack_50 : decode cX0_takeBack 50 = .ok (.ireturn, 1) := by decide +kernel
theorem dX10_agreed_0 : decode cX10_agreed 0 = .ok (.aload_n 0, 1) := by decide +kernel
theorem dX10_agreed_1 : decode cX10_agreed 1 = .ok (.getfield 60, 3) := by decide +kernel
theorem dX10_agreed_4 : decode cX10_agreed 4 = .ok (.aload_n 0, 1) := by decide +kernel
theorem dX10_agreed_5 : decode cX10_agreed 5 = .ok (.getfield 23, 3) := by decide +kernel
theorem dX10_agreed_8 : decode cX10_agreed 8 = .ok (.invokevirtual 269, 3) := by decide +kernel
theorem dX10_agreed_11 : decode cX10_agreed 11 = .ok (.ireturn, 1) := by decide +kernel
theorem dX10_asOthers_0 : decode cX10_asOthers 0 = .ok (.aload_n 0, 1) := by decide +kernel
theorem dX10_asOthers_1 : decode cX10_asOthers 1 = .ok (.getfield 108, 3) := by decide +kernel
theorem dX10_asOthers_4 : decode cX10_asOthers 4 = .ok (.ifCond .eq 12, 3) := by decide +kernel
theorem dX10_asOthers_7 : decode cX10_asOthers 7 = .ok (.iload_n 1, 1) := by decide +kernel
theorem dX10_asOthers_8 : decode cX10_asOthers 8 = .ok (.ifCond .lt 8, 3) := by decide +kernel
theorem dX10_asOthers_11 : decode cX10_asOthers 11 = .ok (.iload_n 1, 1) := by decide +kernel
theorem dX10_asOthers_12 : decode cX10_asOthers 12 = .ok (.iconst 3, 1) := by decide +kernel
theorem dX10_asOthers_13 : decode cX10_asOthers 13 = .ok (.if_icmp .le 6, 3) := by decide +kernel
theorem dX10_asOthers_16 : decode cX10_asOthers 16 = .ok (.bipush (-2), 2) := by decide +kernel
theorem dX10_asOthers_18 : decode cX10_asOthers 18 = .ok (.ireturn, 1) := by decide +kernel
theorem dX10_asOthers_19 : decode cX10_asOthers 19 = .ok (.aload_n 0, 1) := by decide +kernel
theorem dX10_asOthers_20 : decode cX10_asOthers 20 = .ok (.getfield 26, 3) := by decide +kernel
theorem dX10_asOthers_23 : decode cX10_asOthers 23 = .ok (.aload_n 0, 1) := by decide +kernel
theorem dX10_asOthers_24 : decode cX10_asOthers 24 = .ok (.getfield 23, 3) := by decide +kernel
theorem dX10_asOthers_27 : decode cX10_asOthers 27 = .ok (.invokevirtual 104, 3) := by decide +kernel
theorem dX10_asOthers_30 : decode cX10_asOthers 30 = .ok (.aload_n 0, 1) := by decide +kernel
theorem dX10_asOthers_31 : decode cX10_asOthers 31 = .ok (.getfield 26, 3) := by decide +kernel
theorem dX10_asOthers_34 : decode cX10_asOthers 34 = .ok (.aload_n 0, 1) := by decide +kernel
theorem dX10_asOthers_35 : decode cX10_asOthers 35 = .ok (.getfield 23, 3) := by decide +kernel
theorem dX10_asOthers_38 : decode cX10_asOthers 38 = .ok (.getfield 145, 3) := by decide +kernel
theorem dX10_asOthers_41 : decode cX10_asOthers 41 = .ok (.ifCond .ne 7, 3) := by decide +kernel
theorem dX10_asOthers_44 : decode cX10_asOthers 44 = .ok (.iconst 1, 1) := by decide +kernel
theorem dX10_asOthers_45 : decode cX10_asOthers 45 = .ok (.goto 4, 3) := by decide +kernel
theorem dX10_asOthers_48 : decode cX10_asOthers 48 = .ok (.iconst 0, 1) := by decide +kernel
theorem dX10_asOthers_49 : decode cX10_asOthers 49 = .ok (.putfield 145, 3) := by decide +kernel
theorem dX10_asOthers_52 : decode cX10_asOthers 52 = .ok (.iload_n 1, 1) := by decide +kernel
theorem dX10_asOthers_53 : decode cX10_asOthers 53 = .ok (.iconst 3, 1) := by decide +kernel
theorem dX10_asOthers_54 : decode cX10_asOthers 54 = .ok (.if_icmp .ne 11, 3) := by decide +kernel
theorem dX10_asOthers_57 : decode cX10_asOthers 57 = .ok (.aload_n 0, 1) := by decide +kernel
theorem dX10_asOthers_58 : decode cX10_asOthers 58 = .ok (.getfield 26, 3) := by decide +kernel
theorem dX10_asOthers_61 : decode cX10_asOthers 61 = .ok (.invokevirtual 297, 3) := by decide +kernel
theorem dX10_asOthers_64 : decode cX10_asOthers 64 = .ok (.ireturn, 1) := by decide +kernel
theorem dX10_asOthers_65 : decode cX10_asOthers 65 = .ok (.aload_n 0, 1) := by decide +kernel
theorem dX10_asOthers_66 : decode cX10_asOthers 66 = .ok (.aload_n 0, 1) := by decide +kernel
theorem dX10_asOthers_67 : decode cX10_asOthers 67 = .ok (.getfield 26, 3) := by decide +kernel
theorem dX10_asOthers_70 : decode cX10_asOthers 70 = .ok (.aload_n 0, 1) := by decide +kernel
theorem dX10_asOthers_71 : decode cX10_asOthers 71 = .ok (.getfield 39, 3) := by decide +kernel
theorem dX10_asOthers_74 : decode cX10_asOthers 74 = .ok (.aload_n 0, 1) := by decide +kernel
theorem dX10_asOthers_75 : decode cX10_asOthers 75 = .ok (.getfield 115, 3) := by decide +kernel
theorem dX10_asOthers_78 : decode cX10_asOthers 78 = .ok (.invokevirtual 347, 3) := by decide +kernel
theorem dX10_asOthers_81 : decode cX10_asOthers 81 = .ok (.iload_n 1, 1) := by decide +kernel
theorem dX10_asOthers_82 : decode cX10_asOthers 82 = .ok (.lookupswitch 46 #[(0, 26), (1, 38)], 26) := by decide +kernel
theorem dX10_asOthers_108 : decode cX10_asOthers 108 = .ok (.aload_n 0, 1) := by decide +kernel
theorem dX10_asOthers_109 : decode cX10_asOthers 109 = .ok (.getfield 67, 3) := by decide +kernel
theorem dX10_asOthers_112 : decode cX10_asOthers 112 = .ok (.aload_n 0, 1) := by decide +kernel
theorem dX10_asOthers_113 : decode cX10_asOthers 113 = .ok (.getfield 26, 3) := by decide +kernel
theorem dX10_asOthers_116 : decode cX10_asOthers 116 = .ok (.invokevirtual 269, 3) := by decide +kernel
theorem dX10_asOthers_119 : decode cX10_asOthers 119 = .ok (.ireturn, 1) := by decide +kernel
theorem dX10_asOthers_120 : decode cX10_asOthers 120 = .ok (.aload_n 0, 1) := by decide +kernel
theorem dX10_asOthers_121 : decode cX10_asOthers 121 = .ok (.getfield 67, 3) := by decide +kernel
theorem dX10_asOthers_124 : decode cX10_asOthers 124 = .ok (.getfield 291, 3) := by decide +kernel
theorem dX10_asOthers_127 : decode cX10_asOthers 127 = .ok (.ireturn, 1) := by decide +kernel
theorem dX10_asOthers_128 : decode cX10_asOthers 128 = .ok (.aload_n 0, 1) := by decide +kernel
theorem dX10_asOthers_129 : decode cX10_asOthers 129 = .ok (.getfield 67, 3) := by decide +kernel
theorem dX10_asOthers_132 : decode cX10_asOthers 132 = .ok (.getfield 211, 3) := by decide +kernel
theorem dX10_asOthers_135 : decode cX10_asOthers 135 = .ok (.ireturn, 1) := by decide +kernel
theorem dX10_back_0 : decode cX10_back 0 = .ok (.aload_n 0, 1) := by decide +kernel
theorem dX10_back_1 : decode cX10_back 1 = .ok (.getfield 112, 3) := by decide +kernel
theorem dX10_back_4 : decode cX10_back 4 = .ok (.ifCond .ne 5, 3) := by decide +kernel
theorem dX10_back_7 : decode cX10_back 7 = .ok (.iconst (-1), 1) := by decide +kernel
theorem dX10_back_8 : decode cX10_back 8 = .ok (.ireturn, 1) := by decide +kernel
theorem dX10_back_9 : decode cX10_back 9 = .ok (.aload_n 0, 1) := by decide +kernel
theorem dX10_back_10 : decode cX10_back 10 = .ok (.getfield 60, 3) := by decide +kernel
theorem dX10_back_13 : decode cX10_back 13 = .ok (.aload_n 0, 1) := by decide +kernel
theorem dX10_back_14 : decode cX10_back 14 = .ok (.getfield 64, 3) := by decide +kernel
theorem dX10_back_17 : decode cX10_back 17 = .ok (.invokevirtual 384, 3) := by decide +kernel
theorem dX10_back_20 : decode cX10_back 20 = .ok (.aload_n 0, 1) := by decide +kernel
theorem dX10_back_21 : decode cX10_back 21 = .ok (.getfield 73, 3) := by decide +kernel
theorem dX10_back_24 : decode cX10_back 24 = .ok (.iconst 0, 1) := by decide +kernel
theorem dX10_back_25 : decode cX10_back 25 = .ok (.putfield 119, 3) := by decide +kernel
theorem dX10_back_28 : decode cX10_back 28 = .ok (.aload_n 0, 1) := by decide +kernel
theorem dX10_back_29 : decode cX10_back 29 = .ok (.getfield 60, 3) := by decide +kernel
theorem dX10_back_32 : decode cX10_back 32 = .ok (.getfield 159, 3) := by decide +kernel
theorem dX10_back_35 : decode cX10_back 35 = .ok (.ireturn, 1) := by decide +kernel
theorem dX10_broken_0 : decode cX10_broken 0 = .ok (.aload_n 0, 1) := by decide +kernel
theorem dX10_broken_1 : decode cX10_broken 1 = .ok (.aload_n 0, 1) := by decide +kernel
theorem dX10_broken_2 : decode cX10_broken 2 = .ok (.getfield 60, 3) := by decide +kernel
theorem dX10_broken_5 : decode cX10_broken 5 = .ok (.getfield 155, 3) := by decide +kernel
theorem dX10_broken_8 : decode cX10_broken 8 = .ok (.invokevirtual 309, 3) := by decide +kernel
theorem dX10_broken_11 : decode cX10_broken 11 = .ok (.ifCond .ne 6, 3) := by decide +kernel
theorem dX10_broken_14 : decode cX10_broken 14 = .ok (.bipush (-2), 2) := by decide +kernel
theorem dX10_broken_16 : decode cX10_broken 16 = .ok (.ireturn, 1) := by decide +kernel
theorem dX10_broken_17 : decode cX10_broken 17 = .ok (.aload_n 0, 1) := by decide +kernel
theorem dX10_broken_18 : decode cX10_broken 18 = .ok (.getfield 80, 3) := by decide +kernel
theorem dX10_broken_21 : decode cX10_broken 21 = .ok (.aload_n 0, 1) := by decide +kernel
theorem dX10_broken_22 : decode cX10_broken 22 = .ok (.getfield 23, 3) := by decide +kernel
theorem dX10_broken_25 : decode cX10_broken 25 = .ok (.aload_n 0, 1) := by decide +kernel
theorem dX10_broken_26 : decode cX10_broken 26 = .ok (.getfield 60, 3) := by decide +kernel
theorem dX10_broken_29 : decode cX10_broken 29 = .ok (.getfield 155, 3) := by decide +kernel
theorem dX10_broken_32 : decode cX10_broken 32 = .ok (.aload_n 0, 1) := by decide +kernel
theorem dX10_broken_33 : decode cX10_broken 33 = .ok (.getfield 23, 3) := by decide +kernel
theorem dX10_broken_36 : decode cX10_broken 36 = .ok (.getfield 151, 3) := by decide +kernel
theorem dX10_broken_39 : decode cX10_broken 39 = .ok (.invokevirtual 312, 3) := by decide +kernel
theorem dX10_broken_42 : decode cX10_broken 42 = .ok (.aload_n 0, 1) := by decide +kernel
theorem dX10_broken_43 : decode cX10_broken 43 = .ok (.getfield 80, 3) := by decide +kernel
theorem dX10_broken_46 : decode cX10_broken 46 = .ok (.aload_n 0, 1) := by decide +kernel
theorem dX10_broken_47 : decode cX10_broken 47 = .ok (.getfield 60, 3) := by decide +kernel
theorem dX10_broken_50 : decode cX10_broken 50 = .ok (.getfield 154, 3) := by decide +kernel
theorem dX10_broken_53 : decode cX10_broken 53 = .ok (.invokevirtual 316, 3) := by decide +kernel
theorem dX10_broken_56 : decode cX10_broken 56 = .ok (.ireturn, 1) := by decide +kernel
theorem dX10_brokenPlan_0 : decode cX10_brokenPlan 0 = .ok (.aload_n 0, 1) := by decide +kernel
theorem dX10_brokenPlan_1 : decode cX10_brokenPlan 1 = .ok (.invokevirtual 325, 3) := by decide +kernel
theorem dX10_brokenPlan_4 : decode cX10_brokenPlan 4 = .ok (.istore_n 2, 1) := by decide +kernel
theorem dX10_brokenPlan_5 : decode cX10_brokenPlan 5 = .ok (.iload_n 2, 1) := by decide +kernel
theorem dX10_brokenPlan_6 : decode cX10_brokenPlan 6 = .ok (.ifCond .ge 5, 3) := by decide +kernel
theorem dX10_brokenPlan_9 : decode cX10_brokenPlan 9 = .ok (.iload_n 2, 1) := by decide +kernel
theorem dX10_brokenPlan_10 : decode cX10_brokenPlan 10 = .ok (.ireturn, 1) := by decide +kernel
theorem dX10_brokenPlan_11 : decode cX10_brokenPlan 11 = .ok (.aload_n 0, 1) := by decide +kernel
theorem dX10_brokenPlan_12 : decode cX10_brokenPlan 12 = .ok (.getfield 84, 3) := by decide +kernel
theorem dX10_brokenPlan_15 : decode cX10_brokenPlan 15 = .ok (.iconst 0, 1) := by decide +kernel
theorem dX10_brokenPlan_16 : decode cX10_brokenPlan 16 = .ok (.putfield 91, 3) := by decide +kernel
theorem dX10_brokenPlan_19 : decode cX10_brokenPlan 19 = .ok (.iconst 0, 1) := by decide +kernel
theorem dX10_brokenPlan_20 : decode cX10_brokenPlan 20 = .ok (.istore_n 3, 1) := by decide +kernel
theorem dX10_brokenPlan_21 : decode cX10_brokenPlan 21 = .ok (.iload_n 3, 1) := by decide +kernel
theorem dX10_brokenPlan_22 : decode cX10_brokenPlan 22 = .ok (.aload_n 0, 1) := by decide +kernel
theorem dX10_brokenPlan_23 : decode cX10_brokenPlan 23 = .ok (.getfield 23, 3) := by decide +kernel
theorem dX10_brokenPlan_26 : decode cX10_brokenPlan 26 = .ok (.getfield 151, 3) := by decide +kernel
theorem dX10_brokenPlan_29 : decode cX10_brokenPlan 29 = .ok (.if_icmp .ge 38, 3) := by decide +kernel
theorem dX10_brokenPlan_32 : decode cX10_brokenPlan 32 = .ok (.iconst 0, 1) := by decide +kernel
theorem dX10_brokenPlan_33 : decode cX10_brokenPlan 33 = .ok (.istore 4, 2) := by decide +kernel
theorem dX10_brokenPlan_35 : decode cX10_brokenPlan 35 = .ok (.iload 4, 2) := by decide +kernel
theorem dX10_brokenPlan_37 : decode cX10_brokenPlan 37 = .ok (.aload_n 0, 1) := by decide +kernel
theorem dX10_brokenPlan_38 : decode cX10_brokenPlan 38 = .ok (.getfield 23, 3) := by decide +kernel
theorem dX10_brokenPlan_41 : decode cX10_brokenPlan 41 = .ok (.invokevirtual 169, 3) := by decide +kernel
theorem dX10_brokenPlan_44 : decode cX10_brokenPlan 44 = .ok (.if_icmp .ge 17, 3) := by decide +kernel
theorem dX10_brokenPlan_47 : decode cX10_brokenPlan 47 = .ok (.aload_n 0, 1) := by decide +kernel
theorem dX10_brokenPlan_48 : decode cX10_brokenPlan 48 = .ok (.iload_n 3, 1) := by decide +kernel
theorem dX10_brokenPlan_49 : decode cX10_brokenPlan 49 = .ok (.iload 4, 2) := by decide +kernel
theorem dX10_brokenPlan_51 : decode cX10_brokenPlan 51 = .ok (.iload_n 2, 1) := by decide +kernel
theorem dX10_brokenPlan_52 : decode cX10_brokenPlan 52 = .ok (.invokevirtual 328, 3) := by decide +kernel
theorem dX10_brokenPlan_55 : decode cX10_brokenPlan 55 = .ok (.iinc 4 1, 3) := by decide +kernel
theorem dX10_brokenPlan_58 : decode cX10_brokenPlan 58 = .ok (.goto (-23), 3) := by decide +kernel
theorem dX10_brokenPlan_61 : decode cX10_brokenPlan 61 = .ok (.iinc 3 1, 3) := by decide +kernel
theorem dX10_brokenPlan_64 : decode cX10_brokenPlan 64 = .ok (.goto (-43), 3) := by decide +kernel
theorem dX10_brokenPlan_67 : decode cX10_brokenPlan 67 = .ok (.aload_n 0, 1) := by decide +kernel
theorem dX10_brokenPlan_68 : decode cX10_brokenPlan 68 = .ok (.iload_n 1, 1) := by decide +kernel
theorem dX10_brokenPlan_69 : decode cX10_brokenPlan 69 = .ok (.invokevirtual 332, 3) := by decide +kernel
theorem dX10_brokenPlan_72 : decode cX10_brokenPlan 72 = .ok (.ireturn, 1) := by decide +kernel
theorem dX10_brokenStarts_0 : decode cX10_brokenStarts 0 = .ok (.iload_n 1, 1) := by decide +kernel
theorem dX10_brokenStarts_1 : decode cX10_brokenStarts 1 = .ok (.ifCond .lt 22, 3) := by decide +kernel
theorem dX10_brokenStarts_4 : decode cX10_brokenStarts 4 = .ok (.iload_n 1, 1) := by decide +kernel
theorem dX10_brokenStarts_5 : decode cX10_brokenStarts 5 = .ok (.iconst 1, 1) := by decide +kernel
theorem dX10_brokenStarts_6 : decode cX10_brokenStarts 6 = .ok (.if_icmp .gt 17, 3) := by decide +kernel
theorem dX10_brokenStarts_9 : decode cX10_brokenStarts 9 = .ok (.aload_n 0, 1) := by decide +kernel
theorem dX10_brokenStarts_10 : decode cX10_brokenStarts 10 = .ok (.aload_n 0, 1) := by decide +kernel
theorem dX10_brokenStarts_11 : decode cX10_brokenStarts 11 = .ok (.getfield 60, 3) := by decide +kernel
theorem dX10_brokenStarts_14 : decode cX10_brokenStarts 14 = .ok (.getfield 155, 3) := by decide +kernel
theorem dX10_brokenStarts_17 : decode cX10_brokenStarts 17 = .ok (.invokevirtual 309, 3) := by decide +kernel
theorem dX10_brokenStarts_20 : decode cX10_brokenStarts 20 = .ok (.ifCond .ne 6, 3) := by decide +kernel
theorem dX10_brokenStarts_23 : decode cX10_brokenStarts 23 = .ok (.bipush (-2), 2) := by decide +kernel
theorem dX10_brokenStarts_25 : decode cX10_brokenStarts 25 = .ok (.ireturn, 1) := by decide +kernel
theorem dX10_brokenStarts_26 : decode cX10_brokenStarts 26 = .ok (.iload_n 1, 1) := by decide +kernel
theorem dX10_brokenStarts_27 : decode cX10_brokenStarts 27 = .ok (.ifCond .ne 17, 3) := by decide +kernel
theorem dX10_brokenStarts_30 : decode cX10_brokenStarts 30 = .ok (.aload_n 0, 1) := by decide +kernel
theorem dX10_brokenStarts_31 : decode cX10_brokenStarts 31 = .ok (.aload_n 0, 1) := by decide +kernel
theorem dX10_brokenStarts_32 : decode cX10_brokenStarts 32 = .ok (.getfield 60, 3) := by decide +kernel
theorem dX10_brokenStarts_35 : decode cX10_brokenStarts 35 = .ok (.getfield 155, 3) := by decide +kernel
theorem dX10_brokenStarts_38 : decode cX10_brokenStarts 38 = .ok (.invokevirtual 319, 3) := by decide +kernel
theorem dX10_brokenStarts_41 : decode cX10_brokenStarts 41 = .ok (.goto 14, 3) := by decide +kernel
theorem dX10_brokenStarts_44 : decode cX10_brokenStarts 44 = .ok (.aload_n 0, 1) := by decide +kernel
theorem dX10_brokenStarts_45 : decode cX10_brokenStarts 45 = .ok (.aload_n 0, 1) := by decide +kernel
theorem dX10_brokenStarts_46 : decode cX10_brokenStarts 46 = .ok (.getfield 60, 3) := by decide +kernel
theorem dX10_brokenStarts_49 : decode cX10_brokenStarts 49 = .ok (.getfield 155, 3) := by decide +kernel
theorem dX10_brokenStarts_52 : decode cX10_brokenStarts 52 = .ok (.invokevirtual 322, 3) := by decide +kernel
theorem dX10_brokenStarts_55 : decode cX10_brokenStarts 55 = .ok (.ireturn, 1) := by decide +kernel
theorem dX10_byChance_0 : decode cX10_byChance 0 = .ok (.aload_n 0, 1) := by decide +kernel
theorem dX10_byChance_1 : decode cX10_byChance 1 = .ok (.getfield 108, 3) := by decide +kernel
theorem dX10_byChance_4 : decode cX10_byChance 4 = .ok (.ifCond .eq 26, 3) := by decide +kernel
theorem dX10_byChance_7 : decode cX10_byChance 7 = .ok (.iload_n 1, 1) := by decide +kernel
theorem dX10_byChance_8 : decode cX10_byChance 8 = .ok (.iconst 1, 1) := by decide +kernel
theorem dX10_byChance_9 : decode cX10_byChance 9 = .ok (.if_icmp .lt 21, 3) := by decide +kernel
theorem dX10_byChance_12 : decode cX10_byChance 12 = .ok (.iload_n 1, 1) := by decide +kernel
theorem dX10_byChance_13 : decode cX10_byChance 13 = .ok (.sipush 200, 3) := by decide +kernel
theorem dX10_byChance_16 : decode cX10_byChance 16 = .ok (.if_icmp .gt 14, 3) := by decide +kernel
theorem dX10_byChance_19 : decode cX10_byChance 19 = .ok (.iload 4, 2) := by decide +kernel
theorem dX10_byChance_21 : decode cX10_byChance 21 = .ok (.ifCond .lt 9, 3) := by decide +kernel
theorem dX10_byChance_24 : decode cX10_byChance 24 = .ok (.iload 4, 2) := by decide +kernel
theorem dX10_byChance_26 : decode cX10_byChance 26 = .ok (.iconst 3, 1) := by decide +kernel
theorem dX10_byChance_27 : decode cX10_byChance 27 = .ok (.if_icmp .le 6, 3) := by decide +kernel
theorem dX10_byChance_30 : decode cX10_byChance 30 = .ok (.bipush (-2), 2) := by decide +kernel
theorem dX10_byChance_32 : decode cX10_byChance 32 = .ok (.ireturn, 1) := by decide +kernel
theorem dX10_byChance_33 : decode cX10_byChance 33 = .ok (.iconst 0, 1) := by decide +kernel
theorem dX10_byChance_34 : decode cX10_byChance 34 = .ok (.istore 5, 2) := by decide +kernel
theorem dX10_byChance_36 : decode cX10_byChance 36 = .ok (.iconst 0, 1) := by decide +kernel
theorem dX10_byChance_37 : decode cX10_byChance 37 = .ok (.istore 6, 2) := by decide +kernel
theorem dX10_byChance_39 : decode cX10_byChance 39 = .ok (.iconst (-1), 1) := by decide +kernel
theorem dX10_byChance_40 : decode cX10_byChance 40 = .ok (.istore 7, 2) := by decide +kernel
theorem dX10_byChance_42 : decode cX10_byChance 42 = .ok (.iconst 0, 1) := by decide +kernel
theorem dX10_byChance_43 : decode cX10_byChance 43 = .ok (.istore 8, 2) := by decide +kernel
theorem dX10_byChance_45 : decode cX10_byChance 45 = .ok (.iconst 0, 1) := by decide +kernel
theorem dX10_byChance_46 : decode cX10_byChance 46 = .ok (.istore 9, 2) := by decide +kernel
theorem dX10_byChance_48 : decode cX10_byChance 48 = .ok (.iload 9, 2) := by decide +kernel
theorem dX10_byChance_50 : decode cX10_byChance 50 = .ok (.iload_n 1, 1) := by decide +kernel
theorem dX10_byChance_51 : decode cX10_byChance 51 = .ok (.if_icmp .ge 107, 3) := by decide +kernel
theorem dX10_byChance_54 : decode cX10_byChance 54 = .ok (.aload_n 0, 1) := by decide +kernel
theorem dX10_byChance_55 : decode cX10_byChance 55 = .ok (.aload_n 0, 1) := by decide +kernel
theorem dX10_byChance_56 : decode cX10_byChance 56 = .ok (.getfield 23, 3) := by decide +kernel
theorem dX10_byChance_59 : decode cX10_byChance 59 = .ok (.aload_n 0, 1) := by decide +kernel
theorem dX10_byChance_60 : decode cX10_byChance 60 = .ok (.getfield 46, 3) := by decide +kernel
theorem dX10_byChance_63 : decode cX10_byChance 63 = .ok (.lload_n 2, 1) := by decide +kernel
theorem dX10_byChance_64 : decode cX10_byChance 64 = .ok (.iload 9, 2) := by decide +kernel
theorem dX10_byChance_66 : decode cX10_byChance 66 = .ok (.i2l, 1) := by decide +kernel
theorem dX10_byChance_67 : decode cX10_byChance 67 = .ok (.ladd, 1) := by decide +kernel
theorem dX10_byChance_68 : decode cX10_byChance 68 = .ok (.invokevirtual 347, 3) := by decide +kernel
theorem dX10_byChance_71 : decode cX10_byChance 71 = .ok (.iload 6, 2) := by decide +kernel
theorem dX10_byChance_73 : decode cX10_byChance 73 = .ok (.aload_n 0, 1) := by decide +kernel
theorem dX10_byChance_74 : decode cX10_byChance 74 = .ok (.getfield 67, 3) := by decide +kernel
theorem dX10_byChance_77 : decode cX10_byChance 77 = .ok (.getfield 291, 3) := by decide +kernel
theorem dX10_byChance_80 : decode cX10_byChance 80 = .ok (.iadd, 1) := by decide +kernel
theorem dX10_byChance_81 : decode cX10_byChance 81 = .ok (.istore 6, 2) := by decide +kernel
theorem dX10_byChance_83 : decode cX10_byChance 83 = .ok (.aload_n 0, 1) := by decide +kernel
theorem dX10_byChance_84 : decode cX10_byChance 84 = .ok (.getfield 67, 3) := by decide +kernel
theorem dX10_byChance_87 : decode cX10_byChance 87 = .ok (.aload_n 0, 1) := by decide +kernel
theorem dX10_byChance_88 : decode cX10_byChance 88 = .ok (.getfield 23, 3) := by decide +kernel
theorem dX10_byChance_91 : decode cX10_byChance 91 = .ok (.aload_n 0, 1) := by decide +kernel
theorem dX10_byChance_92 : decode cX10_byChance 92 = .ok (.getfield 67, 3) := by decide +kernel
theorem dX10_byChance_95 : decode cX10_byChance 95 = .ok (.getfield 211, 3) := by decide +kernel
theorem dX10_byChance_98 : decode cX10_byChance 98 = .ok (.invokevirtual 276, 3) := by decide +kernel
theorem dX10_byChance_101 : decode cX10_byChance 101 = .ok (.ifCond .eq 41, 3) := by decide +kernel
theorem dX10_byChance_104 : decode cX10_byChance 104 = .ok (.iinc 5 1, 3) := by decide +kernel
theorem dX10_byChance_107 : decode cX10_byChance 107 = .ok (.iload 8, 2) := by decide +kernel
theorem dX10_byChance_109 : decode cX10_byChance 109 = .ok (.aload_n 0, 1) := by decide +kernel
theorem dX10_byChance_110 : decode cX10_byChance 110 = .ok (.getfield 67, 3) := by decide +kernel
theorem dX10_byChance_113 : decode cX10_byChance 113 = .ok (.getfield 211, 3) := by decide +kernel
theorem dX10_byChance_116 : decode cX10_byChance 116 = .ok (.aload_n 0, 1) := by decide +kernel
theorem dX10_byChance_117 : decode cX10_byChance 117 = .ok (.getfield 67, 3) := by decide +kernel
theorem dX10_byChance_120 : decode cX10_byChance 120 = .ok (.aload_n 0, 1) := by decide +kernel
theorem dX10_byChance_121 : decode cX10_byChance 121 = .ok (.getfield 23, 3) := by decide +kernel
theorem dX10_byChance_124 : decode cX10_byChance 124 = .ok (.invokevirtual 280, 3) := by decide +kernel
theorem dX10_byChance_127 : decode cX10_byChance 127 = .ok (.iand, 1) := by decide +kernel
theorem dX10_byChance_128 : decode cX10_byChance 128 = .ok (.ifCond .eq 7, 3) := by decide +kernel
theorem dX10_byChance_131 : decode cX10_byChance 131 = .ok (.iconst 1, 1) := by decide +kernel
theorem dX10_byChance_132 : decode cX10_byChance 132 = .ok (.goto 4, 3) := by decide +kernel
theorem dX10_byChance_135 : decode cX10_byChance 135 = .ok (.iconst 0, 1) := by decide +kernel
theorem dX10_byChance_136 : decode cX10_byChance 136 = .ok (.iadd, 1) := by decide +kernel
theorem dX10_byChance_137 : decode cX10_byChance 137 = .ok (.istore 8, 2) := by decide +kernel
theorem dX10_byChance_139 : decode cX10_byChance 139 = .ok (.goto 13, 3) := by decide +kernel
theorem dX10_byChance_142 : decode cX10_byChance 142 = .ok (.iload 7, 2) := by decide +kernel
theorem dX10_byChance_144 : decode cX10_byChance 144 = .ok (.iconst (-1), 1) := by decide +kernel
theorem dX10_byChance_145 : decode cX10_byChance 145 = .ok (.if_icmp .ne 7, 3) := by decide +kernel
theorem dX10_byChance_148 : decode cX10_byChance 148 = .ok (.iload 9, 2) := by decide +kernel
theorem dX10_byChance_150 : decode cX10_byChance 150 = .ok (.istore 7, 2) := by decide +kernel
theorem dX10_byChance_152 : decode cX10_byChance 152 = .ok (.iinc 9 1, 3) := by decide +kernel
theorem dX10_byChance_155 : decode cX10_byChance 155 = .ok (.goto (-107), 3) := by decide +kernel
theorem dX10_byChance_158 : decode cX10_byChance 158 = .ok (.iload 4, 2) := by decide +kernel
theorem dX10_byChance_160 : decode cX10_byChance 160 = .ok (.tableswitch 37 0 2 #[28, 31, 34], 28) := by decide +kernel
theorem dX10_byChance_188 : decode cX10_byChance 188 = .ok (.iload 5, 2) := by decide +kernel
theorem dX10_byChance_190 : decode cX10_byChance 190 = .ok (.ireturn, 1) := by decide +kernel
theorem dX10_byChance_191 : decode cX10_byChance 191 = .ok (.iload 6, 2) := by decide +kernel
theorem dX10_byChance_193 : decode cX10_byChance 193 = .ok (.ireturn, 1) := by decide +kernel
theorem dX10_byChance_194 : decode cX10_byChance 194 = .ok (.iload 7, 2) := by decide +kernel
theorem dX10_byChance_196 : decode cX10_byChance 196 = .ok (.ireturn, 1) := by decide +kernel
theorem dX10_byChance_197 : decode cX10_byChance 197 = .ok (.iload 8, 2) := by decide +kernel
theorem dX10_byChance_199 : decode cX10_byChance 199 = .ok (.ireturn, 1) := by decide +kernel
theorem dX10_canBreak_0 : decode cX10_canBreak 0 = .ok (.iload_n 1, 1) := by decide +kernel
theorem dX10_canBreak_1 : decode cX10_canBreak 1 = .ok (.ifCond .lt 26, 3) := by decide +kernel
theorem dX10_canBreak_4 : decode cX10_canBreak 4 = .ok (.iload_n 1, 1) := by decide +kernel
theorem dX10_canBreak_5 : decode cX10_canBreak 5 = .ok (.iconst 1, 1) := by decide +kernel
theorem dX10_canBreak_6 : decode cX10_canBreak 6 = .ok (.if_icmp .gt 21, 3) := by decide +kernel
theorem dX10_canBreak_9 : decode cX10_canBreak 9 = .ok (.aload_n 0, 1) := by decide +kernel
theorem dX10_canBreak_10 : decode cX10_canBreak 10 = .ok (.getfield 108, 3) := by decide +kernel
theorem dX10_canBreak_13 : decode cX10_canBreak 13 = .ok (.ifCond .eq 14, 3) := by decide +kernel
theorem dX10_canBreak_16 : decode cX10_canBreak 16 = .ok (.aload_n 0, 1) := by decide +kernel
theorem dX10_canBreak_17 : decode cX10_canBreak 17 = .ok (.getfield 23, 3) := by decide +kernel
theorem dX10_canBreak_20 : decode cX10_canBreak 20 = .ok (.getfield 132, 3) := by decide +kernel
theorem dX10_canBreak_23 : decode cX10_canBreak 23 = .ok (.iconst 5, 1) := by decide +kernel
theorem dX10_canBreak_24 : decode cX10_canBreak 24 = .ok (.if_icmp .le 6, 3) := by decide +kernel
theorem dX10_canBreak_27 : decode cX10_canBreak 27 = .ok (.bipush (-2), 2) := by decide +kernel
theorem dX10_canBreak_29 : decode cX10_canBreak 29 = .ok (.ireturn, 1) := by decide +kernel
theorem dX10_canBreak_30 : decode cX10_canBreak 30 = .ok (.iconst 0, 1) := by decide +kernel
theorem dX10_canBreak_31 : decode cX10_canBreak 31 = .ok (.istore_n 2, 1) := by decide +kernel
theorem dX10_canBreak_32 : decode cX10_canBreak 32 = .ok (.iconst (-1), 1) := by decide +kernel
theorem dX10_canBreak_33 : decode cX10_canBreak 33 = .ok (.istore_n 3, 1) := by decide +kernel
theorem dX10_canBreak_34 : decode cX10_canBreak 34 = .ok (.iconst 0, 1) := by decide +kernel
theorem dX10_canBreak_35 : decode cX10_canBreak 35 = .ok (.istore 4, 2) := by decide +kernel
theorem dX10_canBreak_37 : decode cX10_canBreak 37 = .ok (.iload 4, 2) := by decide +kernel
theorem dX10_canBreak_39 : decode cX10_canBreak 39 = .ok (.aload_n 0, 1) := by decide +kernel
theorem dX10_canBreak_40 : decode cX10_canBreak 40 = .ok (.getfield 23, 3) := by decide +kernel
theorem dX10_canBreak_43 : decode cX10_canBreak 43 = .ok (.invokevirtual 205, 3) := by decide +kernel
theorem dX10_canBreak_46 : decode cX10_canBreak 46 = .ok (.if_icmp .ge 67, 3) := by decide +kernel
theorem dX10_canBreak_49 : decode cX10_canBreak 49 = .ok (.iload 4, 2) := by decide +kernel
theorem dX10_canBreak_51 : decode cX10_canBreak 51 = .ok (.invokestatic 283, 3) := by decide +kernel
theorem dX10_canBreak_54 : decode cX10_canBreak 54 = .ok (.aload_n 0, 1) := by decide +kernel
theorem dX10_canBreak_55 : decode cX10_canBreak 55 = .ok (.getfield 60, 3) := by decide +kernel
theorem dX10_canBreak_58 : decode cX10_canBreak 58 = .ok (.getfield 155, 3) := by decide +kernel
theorem dX10_canBreak_61 : decode cX10_canBreak 61 = .ok (.invokestatic 283, 3) := by decide +kernel
theorem dX10_canBreak_64 : decode cX10_canBreak 64 = .ok (.if_icmp .eq 6, 3) := by decide +kernel
theorem dX10_canBreak_67 : decode cX10_canBreak 67 = .ok (.goto 40, 3) := by decide +kernel
theorem dX10_canBreak_70 : decode cX10_canBreak 70 = .ok (.aload_n 0, 1) := by decide +kernel
theorem dX10_canBreak_71 : decode cX10_canBreak 71 = .ok (.iload 4, 2) := by decide +kernel
theorem dX10_canBreak_73 : decode cX10_canBreak 73 = .ok (.invokevirtual 309, 3) := by decide +kernel
theorem dX10_canBreak_76 : decode cX10_canBreak 76 = .ok (.ifCond .ne 6, 3) := by decide +kernel
theorem dX10_canBreak_79 : decode cX10_canBreak 79 = .ok (.bipush (-2), 2) := by decide +kernel
theorem dX10_canBreak_81 : decode cX10_canBreak 81 = .ok (.ireturn, 1) := by decide +kernel
theorem dX10_canBreak_82 : decode cX10_canBreak 82 = .ok (.aload_n 0, 1) := by decide +kernel
theorem dX10_canBreak_83 : decode cX10_canBreak 83 = .ok (.iload 4, 2) := by decide +kernel
theorem dX10_canBreak_85 : decode cX10_canBreak 85 = .ok (.invokevirtual 322, 3) := by decide +kernel
theorem dX10_canBreak_88 : decode cX10_canBreak 88 = .ok (.iconst (-1), 1) := by decide +kernel
theorem dX10_canBreak_89 : decode cX10_canBreak 89 = .ok (.if_icmp .eq 18, 3) := by decide +kernel
theorem dX10_canBreak_92 : decode cX10_canBreak 92 = .ok (.iinc 2 1, 3) := by decide +kernel
theorem dX10_canBreak_95 : decode cX10_canBreak 95 = .ok (.iload_n 3, 1) := by decide +kernel
theorem dX10_canBreak_96 : decode cX10_canBreak 96 = .ok (.iconst (-1), 1) := by decide +kernel
theorem dX10_canBreak_97 : decode cX10_canBreak 97 = .ok (.if_icmp .ne 8, 3) := by decide +kernel
theorem dX10_canBreak_100 : decode cX10_canBreak 100 = .ok (.iload 4, 2) := by decide +kernel
theorem dX10_canBreak_102 : decode cX10_canBreak 102 = .ok (.goto 4, 3) := by decide +kernel
theorem dX10_canBreak_105 : decode cX10_canBreak 105 = .ok (.iload_n 3, 1) := by decide +kernel
theorem dX10_canBreak_106 : decode cX10_canBreak 106 = .ok (.istore_n 3, 1) := by decide +kernel
theorem dX10_canBreak_107 : decode cX10_canBreak 107 = .ok (.iinc 4 1, 3) := by decide +kernel
theorem dX10_canBreak_110 : decode cX10_canBreak 110 = .ok (.goto (-73), 3) := by decide +kernel
theorem dX10_canBreak_113 : decode cX10_canBreak 113 = .ok (.iload_n 1, 1) := by decide +kernel
theorem dX10_canBreak_114 : decode cX10_canBreak 114 = .ok (.ifCond .ne 7, 3) := by decide +kernel
theorem dX10_canBreak_117 : decode cX10_canBreak 117 = .ok (.iload_n 2, 1) := by decide +kernel
theorem dX10_canBreak_118 : decode cX10_canBreak 118 = .ok (.goto 4, 3) := by decide +kernel
theorem dX10_canBreak_121 : decode cX10_canBreak 121 = .ok (.iload_n 3, 1) := by decide +kernel
theorem dX10_canBreak_122 : decode cX10_canBreak 122 = .ok (.ireturn, 1) := by decide +kernel
theorem dX10_count_0 : decode cX10_count 0 = .ok (.iload_n 1, 1) := by decide +kernel
theorem dX10_count_1 : decode cX10_count 1 = .ok (.tableswitch 51 0 2 #[27, 35, 43], 27) := by decide +kernel
theorem dX10_count_28 : decode cX10_count 28 = .ok (.aload_n 0, 1) := by decide +kernel
theorem dX10_count_29 : decode cX10_count 29 = .ok (.getfield 10, 3) := by decide +kernel
theorem dX10_count_32 : decode cX10_count 32 = .ok (.getfield 91, 3) := by decide +kernel
theorem dX10_count_35 : decode cX10_count 35 = .ok (.ireturn, 1) := by decide +kernel
theorem dX10_count_36 : decode cX10_count 36 = .ok (.aload_n 0, 1) := by decide +kernel
theorem dX10_count_37 : decode cX10_count 37 = .ok (.getfield 73, 3) := by decide +kernel
theorem dX10_count_40 : decode cX10_count 40 = .ok (.getfield 119, 3) := by decide +kernel
theorem dX10_count_43 : decode cX10_count 43 = .ok (.ireturn, 1) := by decide +kernel
theorem dX10_count_44 : decode cX10_count 44 = .ok (.aload_n 0, 1) := by decide +kernel
theorem dX10_count_45 : decode cX10_count 45 = .ok (.getfield 60, 3) := by decide +kernel
theorem dX10_count_48 : decode cX10_count 48 = .ok (.getfield 159, 3) := by decide +kernel
theorem dX10_count_51 : decode cX10_count 51 = .ok (.ireturn, 1) := by decide +kernel
theorem dX10_count_52 : decode cX10_count 52 = .ok (.iconst (-1), 1) := by decide +kernel
theorem dX10_count_53 : decode cX10_count 53 = .ok (.ireturn, 1) := by decide +kernel
theorem dX10_end_0 : decode cX10_end 0 = .ok (.iload_n 1, 1) := by decide +kernel
theorem dX10_end_1 : decode cX10_end 1 = .ok (.ifCond .lt 14, 3) := by decide +kernel
theorem dX10_end_4 : decode cX10_end 4 = .ok (.iload_n 1, 1) := by decide +kernel
theorem dX10_end_5 : decode cX10_end 5 = .ok (.aload_n 0, 1) := by decide +kernel
theorem dX10_end_6 : decode cX10_end 6 = .ok (.getfield 10, 3) := by decide +kernel
theorem dX10_end_9 : decode cX10_end 9 = .ok (.getfield 91, 3) := by decide +kernel
theorem dX10_end_12 : decode cX10_end 12 = .ok (.if_icmp .le 5, 3) := by decide +kernel
theorem dX10_end_15 : decode cX10_end 15 = .ok (.iconst 0, 1) := by decide +kernel
theorem dX10_end_16 : decode cX10_end 16 = .ok (.ireturn, 1) := by decide +kernel
theorem dX10_end_17 : decode cX10_end 17 = .ok (.aload_n 0, 1) := by decide +kernel
theorem dX10_end_18 : decode cX10_end 18 = .ok (.getfield 10, 3) := by decide +kernel
theorem dX10_end_21 : decode cX10_end 21 = .ok (.iload_n 1, 1) := by decide +kernel
theorem dX10_end_22 : decode cX10_end 22 = .ok (.putfield 91, 3) := by decide +kernel
theorem dX10_end_25 : decode cX10_end 25 = .ok (.iconst 1, 1) := by decide +kernel
theorem dX10_end_26 : decode cX10_end 26 = .ok (.ireturn, 1) := by decide +kernel
theorem dX10_falseOnes_0 : decode cX10_falseOnes 0 = .ok (.aload_n 0, 1) := by decide +kernel
theorem dX10_falseOnes_1 : decode cX10_falseOnes 1 = .ok (.iload_n 1, 1) := by decide +kernel
theorem dX10_falseOnes_2 : decode cX10_falseOnes 2 = .ok (.aload_n 0, 1) := by decide +kernel
theorem dX10_falseOnes_3 : decode cX10_falseOnes 3 = .ok (.getfield 23, 3) := by decide +kernel
theorem dX10_falseOnes_6 : decode cX10_falseOnes 6 = .ok (.invokevirtual 205, 3) := by decide +kernel
theorem dX10_falseOnes_9 : decode cX10_falseOnes 9 = .ok (.iconst 1, 1) := by decide +kernel
theorem dX10_falseOnes_10 : decode cX10_falseOnes 10 = .ok (.isub, 1) := by decide +kernel
theorem dX10_falseOnes_11 : decode cX10_falseOnes 11 = .ok (.invokevirtual 208, 3) := by decide +kernel
theorem dX10_falseOnes_14 : decode cX10_falseOnes 14 = .ok (.istore_n 2, 1) := by decide +kernel
theorem dX10_falseOnes_15 : decode cX10_falseOnes 15 = .ok (.iload_n 2, 1) := by decide +kernel
theorem dX10_falseOnes_16 : decode cX10_falseOnes 16 = .ok (.iconst (-1), 1) := by decide +kernel
theorem dX10_falseOnes_17 : decode cX10_falseOnes 17 = .ok (.if_icmp .eq 9, 3) := by decide +kernel
theorem dX10_falseOnes_20 : decode cX10_falseOnes 20 = .ok (.aload_n 0, 1) := by decide +kernel
theorem dX10_falseOnes_21 : decode cX10_falseOnes 21 = .ok (.iload_n 2, 1) := by decide +kernel
theorem dX10_falseOnes_22 : decode cX10_falseOnes 22 = .ok (.invokevirtual 198, 3) := by decide +kernel
theorem dX10_falseOnes_25 : decode cX10_falseOnes 25 = .ok (.ireturn, 1) := by decide +kernel
theorem dX10_falseOnes_26 : decode cX10_falseOnes 26 = .ok (.aload_n 0, 1) := by decide +kernel
theorem dX10_falseOnes_27 : decode cX10_falseOnes 27 = .ok (.getfield 60, 3) := by decide +kernel
theorem dX10_falseOnes_30 : decode cX10_falseOnes 30 = .ok (.getfield 155, 3) := by decide +kernel
theorem dX10_falseOnes_33 : decode cX10_falseOnes 33 = .ok (.istore_n 3, 1) := by decide +kernel
theorem dX10_falseOnes_34 : decode cX10_falseOnes 34 = .ok (.aload_n 0, 1) := by decide +kernel
theorem dX10_falseOnes_35 : decode cX10_falseOnes 35 = .ok (.getfield 73, 3) := by decide +kernel
theorem dX10_falseOnes_38 : decode cX10_falseOnes 38 = .ok (.aload_n 0, 1) := by decide +kernel
theorem dX10_falseOnes_39 : decode cX10_falseOnes 39 = .ok (.getfield 60, 3) := by decide +kernel
theorem dX10_falseOnes_42 : decode cX10_falseOnes 42 = .ok (.invokevirtual 186, 3) := by decide +kernel
theorem dX10_falseOnes_45 : decode cX10_falseOnes 45 = .ok (.aload_n 0, 1) := by decide +kernel
theorem dX10_falseOnes_46 : decode cX10_falseOnes 46 = .ok (.getfield 60, 3) := by decide +kernel
theorem dX10_falseOnes_49 : decode cX10_falseOnes 49 = .ok (.iload_n 1, 1) := by decide +kernel
theorem dX10_falseOnes_50 : decode cX10_falseOnes 50 = .ok (.putfield 155, 3) := by decide +kernel
theorem dX10_falseOnes_53 : decode cX10_falseOnes 53 = .ok (.aload_n 0, 1) := by decide +kernel
theorem dX10_falseOnes_54 : decode cX10_falseOnes 54 = .ok (.getfield 60, 3) := by decide +kernel
theorem dX10_falseOnes_57 : decode cX10_falseOnes 57 = .ok (.invokevirtual 214, 3) := by decide +kernel
theorem dX10_falseOnes_60 : decode cX10_falseOnes 60 = .ok (.iload_n 3, 1) := by decide +kernel
theorem dX10_falseOnes_61 : decode cX10_falseOnes 61 = .ok (.ireturn, 1) := by decide +kernel
theorem dX10_free_0 : decode cX10_free 0 = .ok (.aload_n 0, 1) := by decide +kernel
theorem dX10_free_1 : decode cX10_free 1 = .ok (.getfield 108, 3) := by decide +kernel
theorem dX10_free_4 : decode cX10_free 4 = .ok (.ifCond .eq 17, 3) := by decide +kernel
theorem dX10_free_7 : decode cX10_free 7 = .ok (.aload_n 0, 1) := by decide +kernel
theorem dX10_free_8 : decode cX10_free 8 = .ok (.aload_n 0, 1) := by decide +kernel
theorem dX10_free_9 : decode cX10_free 9 = .ok (.getfield 60, 3) := by decide +kernel
theorem dX10_free_12 : decode cX10_free 12 = .ok (.getfield 155, 3) := by decide +kernel
theorem dX10_free_15 : decode cX10_free 15 = .ok (.invokevirtual 306, 3) := by decide +kernel
theorem dX10_free_18 : decode cX10_free 18 = .ok (.goto 4, 3) := by decide +kernel
theorem dX10_free_21 : decode cX10_free 21 = .ok (.iconst (-1), 1) := by decide +kernel
theorem dX10_free_22 : decode cX10_free 22 = .ok (.ireturn, 1) := by decide +kernel
theorem dX10_greatest_0 : decode cX10_greatest 0 = .ok (.iload_n 1, 1) := by decide +kernel
theorem dX10_greatest_1 : decode cX10_greatest 1 = .ok (.ifCond .lt 19, 3) := by decide +kernel
theorem dX10_greatest_4 : decode cX10_greatest 4 = .ok (.iload_n 1, 1) := by decide +kernel
theorem dX10_greatest_5 : decode cX10_greatest 5 = .ok (.iconst 1, 1) := by decide +kernel
theorem dX10_greatest_6 : decode cX10_greatest 6 = .ok (.if_icmp .gt 14, 3) := by decide +kernel
theorem dX10_greatest_9 : decode cX10_greatest 9 = .ok (.iload_n 2, 1) := by decide +kernel
theorem dX10_greatest_10 : decode cX10_greatest 10 = .ok (.iconst 1, 1) := by decide +kernel
theorem dX10_greatest_11 : decode cX10_greatest 11 = .ok (.if_icmp .lt 9, 3) := by decide +kernel
theorem dX10_greatest_14 : decode cX10_greatest 14 = .ok (.iload_n 2, 1) := by decide +kernel
theorem dX10_greatest_15 : decode cX10_greatest 15 = .ok (.bipush 100, 2) := by decide +kernel
theorem dX10_greatest_17 : decode cX10_greatest 17 = .ok (.if_icmp .le 5, 3) := by decide +kernel
theorem dX10_greatest_20 : decode cX10_greatest 20 = .ok (.iconst (-1), 1) := by decide +kernel
theorem dX10_greatest_21 : decode cX10_greatest 21 = .ok (.ireturn, 1) := by decide +kernel
theorem dX10_greatest_22 : decode cX10_greatest 22 = .ok (.iload_n 1, 1) := by decide +kernel
theorem dX10_greatest_23 : decode cX10_greatest 23 = .ok (.iload_n 2, 1) := by decide +kernel
theorem dX10_greatest_24 : decode cX10_greatest 24 = .ok (.invokestatic 303, 3) := by decide +kernel
theorem dX10_greatest_27 : decode cX10_greatest 27 = .ok (.ireturn, 1) := by decide +kernel
theorem dX10_greatestBound_0 : decode cX10_greatestBound 0 = .ok (.iload_n 0, 1) := by decide +kernel
theorem dX10_greatestBound_1 : decode cX10_greatestBound 1 = .ok (.ifCond .ne 11, 3) := by decide +kernel
theorem dX10_greatestBound_4 : decode cX10_greatestBound 4 = .ok (.iload_n 1, 1) := by decide +kernel
theorem dX10_greatestBound_5 : decode cX10_greatestBound 5 = .ok (.iconst 1, 1) := by decide +kernel
theorem dX10_greatestBound_6 : decode cX10_greatestBound 6 = .ok (.isub, 1) := by decide +kernel
theorem dX10_greatestBound_7 : decode cX10_greatestBound 7 = .ok (.iconst 3, 1) := by decide +kernel
theorem dX10_greatestBound_8 : decode cX10_greatestBound 8 = .ok (.idiv, 1) := by decide +kernel
theorem dX10_greatestBound_9 : decode cX10_greatestBound 9 = .ok (.goto 8, 3) := by decide +kernel
theorem dX10_greatestBound_12 : decode cX10_greatestBound 12 = .ok (.iload_n 1, 1) := by decide +kernel
theorem dX10_greatestBound_13 : decode cX10_greatestBound 13 = .ok (.iconst 1, 1) := by decide +kernel
theorem dX10_greatestBound_14 : decode cX10_greatestBound 14 = .ok (.isub, 1) := by decide +kernel
theorem dX10_greatestBound_15 : decode cX10_greatestBound 15 = .ok (.iconst 4, 1) := by decide +kernel
theorem dX10_greatestBound_16 : decode cX10_greatestBound 16 = .ok (.idiv, 1) := by decide +kernel
theorem dX10_greatestBound_17 : decode cX10_greatestBound 17 = .ok (.ireturn, 1) := by decide +kernel
theorem dX10_heard_0 : decode cX10_heard 0 = .ok (.aload_n 0, 1) := by decide +kernel
theorem dX10_heard_1 : decode cX10_heard 1 = .ok (.iload_n 3, 1) := by decide +kernel
theorem dX10_heard_2 : decode cX10_heard 2 = .ok (.invokevirtual 217, 3) := by decide +kernel
theorem dX10_heard_5 : decode cX10_heard 5 = .ok (.ifCond .eq 21, 3) := by decide +kernel
theorem dX10_heard_8 : decode cX10_heard 8 = .ok (.aload_n 0, 1) := by decide +kernel
theorem dX10_heard_9 : decode cX10_heard 9 = .ok (.iload 4, 2) := by decide +kernel
theorem dX10_heard_11 : decode cX10_heard 11 = .ok (.invokevirtual 217, 3) := by decide +kernel
theorem dX10_heard_14 : decode cX10_heard 14 = .ok (.ifCond .eq 12, 3) := by decide +kernel
theorem dX10_heard_17 : decode cX10_heard 17 = .ok (.aload_n 0, 1) := by decide +kernel
theorem dX10_heard_18 : decode cX10_heard 18 = .ok (.iload_n 1, 1) := by decide +kernel
theorem dX10_heard_19 : decode cX10_heard 19 = .ok (.iload_n 2, 1) := by decide +kernel
theorem dX10_heard_20 : decode cX10_heard 20 = .ok (.invokevirtual 221, 3) := by decide +kernel
theorem dX10_heard_23 : decode cX10_heard 23 = .ok (.ifCond .ne 5, 3) := by decide +kernel
theorem dX10_heard_26 : decode cX10_heard 26 = .ok (.iconst (-1), 1) := by decide +kernel
theorem dX10_heard_27 : decode cX10_heard 27 = .ok (.ireturn, 1) := by decide +kernel
theorem dX10_heard_28 : decode cX10_heard 28 = .ok (.iload_n 2, 1) := by decide +kernel
theorem dX10_heard_29 : decode cX10_heard 29 = .ok (.aload_n 0, 1) := by decide +kernel
theorem dX10_heard_30 : decode cX10_heard 30 = .ok (.getfield 23, 3) := by decide +kernel
theorem dX10_heard_33 : decode cX10_heard 33 = .ok (.invokevirtual 169, 3) := by decide +kernel
theorem dX10_heard_36 : decode cX10_heard 36 = .ok (.iconst 1, 1) := by decide +kernel
theorem dX10_heard_37 : decode cX10_heard 37 = .ok (.isub, 1) := by decide +kernel
theorem dX10_heard_38 : decode cX10_heard 38 = .ok (.if_icmp .ne 19, 3) := by decide +kernel
theorem dX10_heard_41 : decode cX10_heard 41 = .ok (.iload_n 3, 1) := by decide +kernel
theorem dX10_heard_42 : decode cX10_heard 42 = .ok (.aload_n 0, 1) := by decide +kernel
theorem dX10_heard_43 : decode cX10_heard 43 = .ok (.getfield 23, 3) := by decide +kernel
theorem dX10_heard_46 : decode cX10_heard 46 = .ok (.iload_n 1, 1) := by decide +kernel
theorem dX10_heard_47 : decode cX10_heard 47 = .ok (.invokevirtual 225, 3) := by decide +kernel
theorem dX10_heard_50 : decode cX10_heard 50 = .ok (.if_icmp .eq 7, 3) := by decide +kernel
theorem dX10_heard_53 : decode cX10_heard 53 = .ok (.iconst 1, 1) := by decide +kernel
theorem dX10_heard_54 : decode cX10_heard 54 = .ok (.goto 4, 3) := by decide +kernel
theorem dX10_heard_57 : decode cX10_heard 57 = .ok (.iconst 0, 1) := by decide +kernel
theorem dX10_heard_58 : decode cX10_heard 58 = .ok (.istore 5, 2) := by decide +kernel
theorem dX10_heard_60 : decode cX10_heard 60 = .ok (.iload 5, 2) := by decide +kernel
theorem dX10_heard_62 : decode cX10_heard 62 = .ok (.ifCond .ne 12, 3) := by decide +kernel
theorem dX10_heard_65 : decode cX10_heard 65 = .ok (.aload_n 0, 1) := by decide +kernel
theorem dX10_heard_66 : decode cX10_heard 66 = .ok (.iload_n 1, 1) := by decide +kernel
theorem dX10_heard_67 : decode cX10_heard 67 = .ok (.iload_n 2, 1) := by decide +kernel
theorem dX10_heard_68 : decode cX10_heard 68 = .ok (.invokevirtual 228, 3) := by decide +kernel
theorem dX10_heard_71 : decode cX10_heard 71 = .ok (.ifCond .ne 7, 3) := by decide +kernel
theorem dX10_heard_74 : decode cX10_heard 74 = .ok (.iconst (-1), 1) := by decide +kernel
theorem dX10_heard_75 : decode cX10_heard 75 = .ok (.goto 15, 3) := by decide +kernel
theorem dX10_heard_78 : decode cX10_heard 78 = .ok (.aload_n 0, 1) := by decide +kernel
theorem dX10_heard_79 : decode cX10_heard 79 = .ok (.getfield 60, 3) := by decide +kernel
theorem dX10_heard_82 : decode cX10_heard 82 = .ok (.iload_n 1, 1) := by decide +kernel
theorem dX10_heard_83 : decode cX10_heard 83 = .ok (.iload_n 2, 1) := by decide +kernel
theorem dX10_heard_84 : decode cX10_heard 84 = .ok (.iload_n 3, 1) := by decide +kernel
theorem dX10_heard_85 : decode cX10_heard 85 = .ok (.iload 4, 2) := by decide +kernel
theorem dX10_heard_87 : decode cX10_heard 87 = .ok (.invokevirtual 231, 3) := by decide +kernel
theorem dX10_heard_90 : decode cX10_heard 90 = .ok (.ireturn, 1) := by decide +kernel
theorem dX10_held_0 : decode cX10_held 0 = .ok (.aload_n 0, 1) := by decide +kernel
theorem dX10_held_1 : decode cX10_held 1 = .ok (.aload_n 0, 1) := by decide +kernel
theorem dX10_held_2 : decode cX10_held 2 = .ok (.getfield 60, 3) := by decide +kernel
theorem dX10_held_5 : decode cX10_held 5 = .ok (.getfield 155, 3) := by decide +kernel
theorem dX10_held_8 : decode cX10_held 8 = .ok (.invokevirtual 309, 3) := by decide +kernel
theorem dX10_held_11 : decode cX10_held 11 = .ok (.ifCond .ne 6, 3) := by decide +kernel
theorem dX10_held_14 : decode cX10_held 14 = .ok (.bipush (-2), 2) := by decide +kernel
theorem dX10_held_16 : decode cX10_held 16 = .ok (.ireturn, 1) := by decide +kernel
theorem dX10_held_17 : decode cX10_held 17 = .ok (.aload_n 0, 1) := by decide +kernel
theorem dX10_held_18 : decode cX10_held 18 = .ok (.iload_n 2, 1) := by decide +kernel
theorem dX10_held_19 : decode cX10_held 19 = .ok (.invokevirtual 217, 3) := by decide +kernel
theorem dX10_held_22 : decode cX10_held 22 = .ok (.ifCond .eq 24, 3) := by decide +kernel
theorem dX10_held_25 : decode cX10_held 25 = .ok (.iload_n 1, 1) := by decide +kernel
theorem dX10_held_26 : decode cX10_held 26 = .ok (.ifCond .lt 20, 3) := by decide +kernel
theorem dX10_held_29 : decode cX10_held 29 = .ok (.iload_n 1, 1) := by decide +kernel
theorem dX10_held_30 : decode cX10_held 30 = .ok (.iconst 1, 1) := by decide +kernel
theorem dX10_held_31 : decode cX10_held 31 = .ok (.aload_n 0, 1) := by decide +kernel
theorem dX10_held_32 : decode cX10_held 32 = .ok (.aload_n 0, 1) := by decide +kernel
theorem dX10_held_33 : decode cX10_held 33 = .ok (.getfield 60, 3) := by decide +kernel
theorem dX10_held_36 : decode cX10_held 36 = .ok (.getfield 155, 3) := by decide +kernel
theorem dX10_held_39 : decode cX10_held 39 = .ok (.invokevirtual 306, 3) := by decide +kernel
theorem dX10_held_42 : decode cX10_held 42 = .ok (.ishl, 1) := by decide +kernel
theorem dX10_held_43 : decode cX10_held 43 = .ok (.if_icmp .lt 5, 3) := by decide +kernel
theorem dX10_held_46 : decode cX10_held 46 = .ok (.iconst (-1), 1) := by decide +kernel
theorem dX10_held_47 : decode cX10_held 47 = .ok (.ireturn, 1) := by decide +kernel
theorem dX10_held_48 : decode cX10_held 48 = .ok (.aload_n 0, 1) := by decide +kernel
theorem dX10_held_49 : decode cX10_held 49 = .ok (.getfield 53, 3) := by decide +kernel
theorem dX10_held_52 : decode cX10_held 52 = .ok (.iload_n 1, 1) := by decide +kernel
theorem dX10_held_53 : decode cX10_held 53 = .ok (.putfield 341, 3) := by decide +kernel
theorem dX10_held_56 : decode cX10_held 56 = .ok (.aload_n 0, 1) := by decide +kernel
theorem dX10_held_57 : decode cX10_held 57 = .ok (.getfield 53, 3) := by decide +kernel
theorem dX10_held_60 : decode cX10_held 60 = .ok (.iconst 0, 1) := by decide +kernel
theorem dX10_held_61 : decode cX10_held 61 = .ok (.putfield 344, 3) := by decide +kernel
theorem dX10_held_64 : decode cX10_held 64 = .ok (.aload_n 0, 1) := by decide +kernel
theorem dX10_held_65 : decode cX10_held 65 = .ok (.aload_n 0, 1) := by decide +kernel
theorem dX10_held_66 : decode cX10_held 66 = .ok (.getfield 23, 3) := by decide +kernel
theorem dX10_held_69 : decode cX10_held 69 = .ok (.aload_n 0, 1) := by decide +kernel
theorem dX10_held_70 : decode cX10_held 70 = .ok (.getfield 53, 3) := by decide +kernel
theorem dX10_held_73 : decode cX10_held 73 = .ok (.aload_n 0, 1) := by decide +kernel
theorem dX10_held_74 : decode cX10_held 74 = .ok (.getfield 115, 3) := by decide +kernel
theorem dX10_held_77 : decode cX10_held 77 = .ok (.invokevirtual 347, 3) := by decide +kernel
theorem dX10_held_80 : decode cX10_held 80 = .ok (.aload_n 0, 1) := by decide +kernel
theorem dX10_held_81 : decode cX10_held 81 = .ok (.getfield 67, 3) := by decide +kernel
theorem dX10_held_84 : decode cX10_held 84 = .ok (.getfield 211, 3) := by decide +kernel
theorem dX10_held_87 : decode cX10_held 87 = .ok (.iload_n 2, 1) := by decide +kernel
theorem dX10_held_88 : decode cX10_held 88 = .ok (.invokestatic 235, 3) := by decide +kernel
theorem dX10_held_91 : decode cX10_held 91 = .ok (.ireturn, 1) := by decide +kernel
theorem dX10_image_0 : decode cX10_image 0 = .ok (.aload_n 0, 1) := by decide +kernel
theorem dX10_image_1 : decode cX10_image 1 = .ok (.getfield 108, 3) := by decide +kernel
theorem dX10_image_4 : decode cX10_image 4 = .ok (.ifCond .ne 5, 3) := by decide +kernel
theorem dX10_image_7 : decode cX10_image 7 = .ok (.iconst (-1), 1) := by decide +kernel
theorem dX10_image_8 : decode cX10_image 8 = .ok (.ireturn, 1) := by decide +kernel
theorem dX10_image_9 : decode cX10_image 9 = .ok (.aload_n 0, 1) := by decide +kernel
theorem dX10_image_10 : decode cX10_image 10 = .ok (.getfield 64, 3) := by decide +kernel
theorem dX10_image_13 : decode cX10_image 13 = .ok (.aload_n 0, 1) := by decide +kernel
theorem dX10_image_14 : decode cX10_image 14 = .ok (.getfield 60, 3) := by decide +kernel
theorem dX10_image_17 : decode cX10_image 17 = .ok (.invokevirtual 384, 3) := by decide +kernel
theorem dX10_image_20 : decode cX10_image 20 = .ok (.aload_n 0, 1) := by decide +kernel
theorem dX10_image_21 : decode cX10_image 21 = .ok (.iconst 1, 1) := by decide +kernel
theorem dX10_image_22 : decode cX10_image 22 = .ok (.putfield 112, 3) := by decide +kernel
theorem dX10_image_25 : decode cX10_image 25 = .ok (.aload_n 0, 1) := by decide +kernel
theorem dX10_image_26 : decode cX10_image 26 = .ok (.getfield 60, 3) := by decide +kernel
theorem dX10_image_29 : decode cX10_image 29 = .ok (.getfield 159, 3) := by decide +kernel
theorem dX10_image_32 : decode cX10_image 32 = .ok (.ireturn, 1) := by decide +kernel
theorem dX10_isAsked_0 : decode cX10_isAsked 0 = .ok (.aload_n 0, 1) := by decide +kernel
theorem dX10_isAsked_1 : decode cX10_isAsked 1 = .ok (.getfield 108, 3) := by decide +kernel
theorem dX10_isAsked_4 : decode cX10_isAsked 4 = .ok (.ifCond .eq 17, 3) := by decide +kernel
theorem dX10_isAsked_7 : decode cX10_isAsked 7 = .ok (.aload_n 0, 1) := by decide +kernel
theorem dX10_isAsked_8 : decode cX10_isAsked 8 = .ok (.iload_n 1, 1) := by decide +kernel
theorem dX10_isAsked_9 : decode cX10_isAsked 9 = .ok (.invokevirtual 306, 3) := by decide +kernel
theorem dX10_isAsked_12 : decode cX10_isAsked 12 = .ok (.bipush 12, 2) := by decide +kernel
theorem dX10_isAsked_14 : decode cX10_isAsked 14 = .ok (.if_icmp .gt 7, 3) := by decide +kernel
theorem dX10_isAsked_17 : decode cX10_isAsked 17 = .ok (.iconst 1, 1) := by decide +kernel
theorem dX10_isAsked_18 : decode cX10_isAsked 18 = .ok (.goto 4, 3) := by decide +kernel
theorem dX10_isAsked_21 : decode cX10_isAsked 21 = .ok (.iconst 0, 1) := by decide +kernel
theorem dX10_isAsked_22 : decode cX10_isAsked 22 = .ok (.ireturn, 1) := by decide +kernel
theorem dX10_isOver_0 : decode cX10_isOver 0 = .ok (.iload_n 1, 1) := by decide +kernel
theorem dX10_isOver_1 : decode cX10_isOver 1 = .ok (.ifCond .lt 15, 3) := by decide +kernel
theorem dX10_isOver_4 : decode cX10_isOver 4 = .ok (.iload_n 1, 1) := by decide +kernel
theorem dX10_isOver_5 : decode cX10_isOver 5 = .ok (.aload_n 0, 1) := by decide +kernel
theorem dX10_isOver_6 : decode cX10_isOver 6 = .ok (.invokevirtual 273, 3) := by decide +kernel
theorem dX10_isOver_9 : decode cX10_isOver 9 = .ok (.if_icmp .ge 7, 3) := by decide +kernel
theorem dX10_isOver_12 : decode cX10_isOver 12 = .ok (.iconst 1, 1) := by decide +kernel
theorem dX10_isOver_13 : decode cX10_isOver 13 = .ok (.goto 4, 3) := by decide +kernel
theorem dX10_isOver_16 : decode cX10_isOver 16 = .ok (.iconst 0, 1) := by decide +kernel
theorem dX10_isOver_17 : decode cX10_isOver 17 = .ok (.ireturn, 1) := by decide +kernel
theorem dX10_isPeer_0 : decode cX10_isPeer 0 = .ok (.aload_n 0, 1) := by decide +kernel
theorem dX10_isPeer_1 : decode cX10_isPeer 1 = .ok (.getfield 108, 3) := by decide +kernel
theorem dX10_isPeer_4 : decode cX10_isPeer 4 = .ok (.ifCond .eq 22, 3) := by decide +kernel
theorem dX10_isPeer_7 : decode cX10_isPeer 7 = .ok (.iload_n 1, 1) := by decide +kernel
theorem dX10_isPeer_8 : decode cX10_isPeer 8 = .ok (.ifCond .lt 18, 3) := by decide +kernel
theorem dX10_isPeer_11 : decode cX10_isPeer 11 = .ok (.iload_n 1, 1) := by decide +kernel
theorem dX10_isPeer_12 : decode cX10_isPeer 12 = .ok (.aload_n 0, 1) := by decide +kernel
theorem dX10_isPeer_13 : decode cX10_isPeer 13 = .ok (.getfield 23, 3) := by decide +kernel
theorem dX10_isPeer_16 : decode cX10_isPeer 16 = .ok (.getfield 132, 3) := by decide +kernel
theorem dX10_isPeer_19 : decode cX10_isPeer 19 = .ok (.if_icmp .ge 7, 3) := by decide +kernel
theorem dX10_isPeer_22 : decode cX10_isPeer 22 = .ok (.iconst 1, 1) := by decide +kernel
theorem dX10_isPeer_23 : decode cX10_isPeer 23 = .ok (.goto 4, 3) := by decide +kernel
theorem dX10_isPeer_26 : decode cX10_isPeer 26 = .ok (.iconst 0, 1) := by decide +kernel
theorem dX10_isPeer_27 : decode cX10_isPeer 27 = .ok (.ireturn, 1) := by decide +kernel
theorem dX10_letters_0 : decode cX10_letters 0 = .ok (.aload_n 0, 1) := by decide +kernel
theorem dX10_letters_1 : decode cX10_letters 1 = .ok (.getfield 108, 3) := by decide +kernel
theorem dX10_letters_4 : decode cX10_letters 4 = .ok (.ifCond .ne 5, 3) := by decide +kernel
theorem dX10_letters_7 : decode cX10_letters 7 = .ok (.iconst (-1), 1) := by decide +kernel
theorem dX10_letters_8 : decode cX10_letters 8 = .ok (.ireturn, 1) := by decide +kernel
theorem dX10_letters_9 : decode cX10_letters 9 = .ok (.aload_n 0, 1) := by decide +kernel
theorem dX10_letters_10 : decode cX10_letters 10 = .ok (.invokevirtual 273, 3) := by decide +kernel
theorem dX10_letters_13 : decode cX10_letters 13 = .ok (.istore_n 2, 1) := by decide +kernel
theorem dX10_letters_14 : decode cX10_letters 14 = .ok (.iload_n 1, 1) := by decide +kernel
theorem dX10_letters_15 : decode cX10_letters 15 = .ok (.tableswitch 73 0 3 #[29, 37, 45, 53], 29) := by decide +kernel
theorem dX10_letters_44 : decode cX10_letters 44 = .ok (.aload_n 0, 1) := by decide +kernel
theorem dX10_letters_45 : decode cX10_letters 45 = .ok (.getfield 60, 3) := by decide +kernel
theorem dX10_letters_48 : decode cX10_letters 48 = .ok (.getfield 291, 3) := by decide +kernel
theorem dX10_letters_51 : decode cX10_letters 51 = .ok (.ireturn, 1) := by decide +kernel
theorem dX10_letters_52 : decode cX10_letters 52 = .ok (.aload_n 0, 1) := by decide +kernel
theorem dX10_letters_53 : decode cX10_letters 53 = .ok (.getfield 60, 3) := by decide +kernel
theorem dX10_letters_56 : decode cX10_letters 56 = .ok (.getfield 294, 3) := by decide +kernel
theorem dX10_letters_59 : decode cX10_letters 59 = .ok (.ireturn, 1) := by decide +kernel
theorem dX10_letters_60 : decode cX10_letters 60 = .ok (.aload_n 0, 1) := by decide +kernel
theorem dX10_letters_61 : decode cX10_letters 61 = .ok (.getfield 23, 3) := by decide +kernel
theorem dX10_letters_64 : decode cX10_letters 64 = .ok (.invokevirtual 297, 3) := by decide +kernel
theorem dX10_letters_67 : decode cX10_letters 67 = .ok (.ireturn, 1) := by decide +kernel
theorem dX10_letters_68 : decode cX10_letters 68 = .ok (.iload_n 2, 1) := by decide +kernel
theorem dX10_letters_69 : decode cX10_letters 69 = .ok (.ifCond .le 17, 3) := by decide +kernel
theorem dX10_letters_72 : decode cX10_letters 72 = .ok (.aload_n 0, 1) := by decide +kernel
theorem dX10_letters_73 : decode cX10_letters 73 = .ok (.getfield 60, 3) := by decide +kernel
theorem dX10_letters_76 : decode cX10_letters 76 = .ok (.getfield 300, 3) := by decide +kernel
theorem dX10_letters_79 : decode cX10_letters 79 = .ok (.iload_n 2, 1) := by decide +kernel
theorem dX10_letters_80 : decode cX10_letters 80 = .ok (.iconst 1, 1) := by decide +kernel
theorem dX10_letters_81 : decode cX10_letters 81 = .ok (.isub, 1) := by decide +kernel
theorem dX10_letters_82 : decode cX10_letters 82 = .ok (.iaload, 1) := by decide +kernel
theorem dX10_letters_83 : decode cX10_letters 83 = .ok (.goto 4, 3) := by decide +kernel
theorem dX10_letters_86 : decode cX10_letters 86 = .ok (.iconst 0, 1) := by decide +kernel
theorem dX10_letters_87 : decode cX10_letters 87 = .ok (.ireturn, 1) := by decide +kernel
theorem dX10_letters_88 : decode cX10_letters 88 = .ok (.iconst (-1), 1) := by decide +kernel
theorem dX10_letters_89 : decode cX10_letters 89 = .ok (.ireturn, 1) := by decide +kernel
theorem dX10_most_0 : decode cX10_most 0 = .ok (.aload_n 0, 1) := by decide +kernel
theorem dX10_most_1 : decode cX10_most 1 = .ok (.getfield 108, 3) := by decide +kernel
theorem dX10_most_4 : decode cX10_most 4 = .ok (.ifCond .ne 5, 3) := by decide +kernel
theorem dX10_most_7 : decode cX10_most 7 = .ok (.iconst (-1), 1) := by decide +kernel
theorem dX10_most_8 : decode cX10_most 8 = .ok (.ireturn, 1) := by decide +kernel
theorem dX10_most_9 : decode cX10_most 9 = .ok (.iload_n 1, 1) := by decide +kernel
theorem dX10_most_10 : decode cX10_most 10 = .ok (.tableswitch 59 0 4 #[34, 39, 44, 49, 54], 34) := by decide +kernel
theorem dX10_most_44 : decode cX10_most 44 = .ok (.aload_n 0, 1) := by decide +kernel
theorem dX10_most_45 : decode cX10_most 45 = .ok (.invokevirtual 386, 3) := by decide +kernel
theorem dX10_most_48 : decode cX10_most 48 = .ok (.ireturn, 1) := by decide +kernel
theorem dX10_most_49 : decode cX10_most 49 = .ok (.aload_n 0, 1) := by decide +kernel
theorem dX10_most_50 : decode cX10_most 50 = .ok (.invokevirtual 389, 3) := by decide +kernel
theorem dX10_most_53 : decode cX10_most 53 = .ok (.ireturn, 1) := by decide +kernel
theorem dX10_most_54 : decode cX10_most 54 = .ok (.aload_n 0, 1) := by decide +kernel
theorem dX10_most_55 : decode cX10_most 55 = .ok (.invokevirtual 392, 3) := by decide +kernel
theorem dX10_most_58 : decode cX10_most 58 = .ok (.ireturn, 1) := by decide +kernel
theorem dX10_most_59 : decode cX10_most 59 = .ok (.aload_n 0, 1) := by decide +kernel
theorem dX10_most_60 : decode cX10_most 60 = .ok (.invokevirtual 395, 3) := by decide +kernel
theorem dX10_most_63 : decode cX10_most 63 = .ok (.ireturn, 1) := by decide +kernel
theorem dX10_most_64 : decode cX10_most 64 = .ok (.aload_n 0, 1) := by decide +kernel
theorem dX10_most_65 : decode cX10_most 65 = .ok (.invokevirtual 398, 3) := by decide +kernel
theorem dX10_most_68 : decode cX10_most 68 = .ok (.ireturn, 1) := by decide +kernel
theorem dX10_most_69 : decode cX10_most 69 = .ok (.iconst (-1), 1) := by decide +kernel
theorem dX10_most_70 : decode cX10_most 70 = .ok (.ireturn, 1) := by decide +kernel
theorem dX10_needed_0 : decode cX10_needed 0 = .ok (.iconst 1, 1) := by decide +kernel
theorem dX10_needed_1 : decode cX10_needed 1 = .ok (.istore_n 1, 1) := by decide +kernel
theorem dX10_needed_2 : decode cX10_needed 2 = .ok (.aload_n 0, 1) := by decide +kernel
theorem dX10_needed_3 : decode cX10_needed 3 = .ok (.getfield 108, 3) := by decide +kernel
theorem dX10_needed_6 : decode cX10_needed 6 = .ok (.ifCond .eq 75, 3) := by decide +kernel
theorem dX10_needed_9 : decode cX10_needed 9 = .ok (.iload_n 1, 1) := by decide +kernel
theorem dX10_needed_10 : decode cX10_needed 10 = .ok (.bipush 6, 2) := by decide +kernel
theorem dX10_needed_12 : decode cX10_needed 12 = .ok (.if_icmp .gt 69, 3) := by decide +kernel
theorem dX10_needed_15 : decode cX10_needed 15 = .ok (.aload_n 0, 1) := by decide +kernel
theorem dX10_needed_16 : decode cX10_needed 16 = .ok (.getfield 23, 3) := by decide +kernel
theorem dX10_needed_19 : decode cX10_needed 19 = .ok (.aload_n 0, 1) := by decide +kernel
theorem dX10_needed_20 : decode cX10_needed 20 = .ok (.getfield 60, 3) := by decide +kernel
theorem dX10_needed_23 : decode cX10_needed 23 = .ok (.getfield 155, 3) := by decide +kernel
theorem dX10_needed_26 : decode cX10_needed 26 = .ok (.iload_n 1, 1) := by decide +kernel
theorem dX10_needed_27 : decode cX10_needed 27 = .ok (.invokevirtual 351, 3) := by decide +kernel
theorem dX10_needed_30 : decode cX10_needed 30 = .ok (.bipush 12, 2) := by decide +kernel
theorem dX10_needed_32 : decode cX10_needed 32 = .ok (.if_icmp .le 5, 3) := by decide +kernel
theorem dX10_needed_35 : decode cX10_needed 35 = .ok (.iconst (-1), 1) := by decide +kernel
theorem dX10_needed_36 : decode cX10_needed 36 = .ok (.ireturn, 1) := by decide +kernel
theorem dX10_needed_37 : decode cX10_needed 37 = .ok (.aload_n 0, 1) := by decide +kernel
theorem dX10_needed_38 : decode cX10_needed 38 = .ok (.getfield 80, 3) := by decide +kernel
theorem dX10_needed_41 : decode cX10_needed 41 = .ok (.aload_n 0, 1) := by decide +kernel
theorem dX10_needed_42 : decode cX10_needed 42 = .ok (.getfield 23, 3) := by decide +kernel
theorem dX10_needed_45 : decode cX10_needed 45 = .ok (.aload_n 0, 1) := by decide +kernel
theorem dX10_needed_46 : decode cX10_needed 46 = .ok (.getfield 60, 3) := by decide +kernel
theorem dX10_needed_49 : decode cX10_needed 49 = .ok (.getfield 155, 3) := by decide +kernel
theorem dX10_needed_52 : decode cX10_needed 52 = .ok (.iload_n 1, 1) := by decide +kernel
theorem dX10_needed_53 : decode cX10_needed 53 = .ok (.invokevirtual 312, 3) := by decide +kernel
theorem dX10_needed_56 : decode cX10_needed 56 = .ok (.aload_n 0, 1) := by decide +kernel
theorem dX10_needed_57 : decode cX10_needed 57 = .ok (.getfield 80, 3) := by decide +kernel
theorem dX10_needed_60 : decode cX10_needed 60 = .ok (.aload_n 0, 1) := by decide +kernel
theorem dX10_needed_61 : decode cX10_needed 61 = .ok (.getfield 60, 3) := by decide +kernel
theorem dX10_needed_64 : decode cX10_needed 64 = .ok (.getfield 154, 3) := by decide +kernel
theorem dX10_needed_67 : decode cX10_needed 67 = .ok (.invokevirtual 335, 3) := by decide +kernel
theorem dX10_needed_70 : decode cX10_needed 70 = .ok (.ifCond .ne 5, 3) := by decide +kernel
theorem dX10_needed_73 : decode cX10_needed 73 = .ok (.iload_n 1, 1) := by decide +kernel
theorem dX10_needed_74 : decode cX10_needed 74 = .ok (.ireturn, 1) := by decide +kernel
theorem dX10_needed_75 : decode cX10_needed 75 = .ok (.iinc 1 1, 3) := by decide +kernel
theorem dX10_needed_78 : decode cX10_needed 78 = .ok (.goto (-76), 3) := by decide +kernel
theorem dX10_needed_81 : decode cX10_needed 81 = .ok (.iconst (-1), 1) := by decide +kernel
theorem dX10_needed_82 : decode cX10_needed 82 = .ok (.ireturn, 1) := by decide +kernel
theorem dX10_peer_0 : decode cX10_peer 0 = .ok (.aload_n 0, 1) := by decide +kernel
theorem dX10_peer_1 : decode cX10_peer 1 = .ok (.iload_n 1, 1) := by decide +kernel
theorem dX10_peer_2 : decode cX10_peer 2 = .ok (.invokevirtual 217, 3) := by decide +kernel
theorem dX10_peer_5 : decode cX10_peer 5 = .ok (.ifCond .ne 5, 3) := by decide +kernel
theorem dX10_peer_8 : decode cX10_peer 8 = .ok (.iconst (-1), 1) := by decide +kernel
theorem dX10_peer_9 : decode cX10_peer 9 = .ok (.ireturn, 1) := by decide +kernel
theorem dX10_peer_10 : decode cX10_peer 10 = .ok (.iload_n 2, 1) := by decide +kernel
theorem dX10_peer_11 : decode cX10_peer 11 = .ok (.tableswitch 74 0 3 #[29, 41, 50, 62], 29) := by decide +kernel
theorem dX10_peer_40 : decode cX10_peer 40 = .ok (.aload_n 0, 1) := by decide +kernel
theorem dX10_peer_41 : decode cX10_peer 41 = .ok (.getfield 60, 3) := by decide +kernel
theorem dX10_peer_44 : decode cX10_peer 44 = .ok (.getfield 211, 3) := by decide +kernel
theorem dX10_peer_47 : decode cX10_peer 47 = .ok (.iload_n 1, 1) := by decide +kernel
theorem dX10_peer_48 : decode cX10_peer 48 = .ok (.invokestatic 235, 3) := by decide +kernel
theorem dX10_peer_51 : decode cX10_peer 51 = .ok (.ireturn, 1) := by decide +kernel
theorem dX10_peer_52 : decode cX10_peer 52 = .ok (.aload_n 0, 1) := by decide +kernel
theorem dX10_peer_53 : decode cX10_peer 53 = .ok (.getfield 60, 3) := by decide +kernel
theorem dX10_peer_56 : decode cX10_peer 56 = .ok (.iload_n 1, 1) := by decide +kernel
theorem dX10_peer_57 : decode cX10_peer 57 = .ok (.invokevirtual 238, 3) := by decide +kernel
theorem dX10_peer_60 : decode cX10_peer 60 = .ok (.ireturn, 1) := by decide +kernel
theorem dX10_peer_61 : decode cX10_peer 61 = .ok (.aload_n 0, 1) := by decide +kernel
theorem dX10_peer_62 : decode cX10_peer 62 = .ok (.getfield 60, 3) := by decide +kernel
theorem dX10_peer_65 : decode cX10_peer 65 = .ok (.getfield 155, 3) := by decide +kernel
theorem dX10_peer_68 : decode cX10_peer 68 = .ok (.iload_n 1, 1) := by decide +kernel
theorem dX10_peer_69 : decode cX10_peer 69 = .ok (.invokestatic 235, 3) := by decide +kernel
theorem dX10_peer_72 : decode cX10_peer 72 = .ok (.ireturn, 1) := by decide +kernel
theorem dX10_peer_73 : decode cX10_peer 73 = .ok (.aload_n 0, 1) := by decide +kernel
theorem dX10_peer_74 : decode cX10_peer 74 = .ok (.getfield 60, 3) := by decide +kernel
theorem dX10_peer_77 : decode cX10_peer 77 = .ok (.getfield 154, 3) := by decide +kernel
theorem dX10_peer_80 : decode cX10_peer 80 = .ok (.iload_n 1, 1) := by decide +kernel
theorem dX10_peer_81 : decode cX10_peer 81 = .ok (.invokestatic 235, 3) := by decide +kernel
theorem dX10_peer_84 : decode cX10_peer 84 = .ok (.ireturn, 1) := by decide +kernel
theorem dX10_peer_85 : decode cX10_peer 85 = .ok (.iconst (-1), 1) := by decide +kernel
theorem dX10_peer_86 : decode cX10_peer 86 = .ok (.ireturn, 1) := by decide +kernel
theorem dX10_phasesOver_0 : decode cX10_phasesOver 0 = .ok (.aload_n 0, 1) := by decide +kernel
theorem dX10_phasesOver_1 : decode cX10_phasesOver 1 = .ok (.getfield 108, 3) := by decide +kernel
theorem dX10_phasesOver_4 : decode cX10_phasesOver 4 = .ok (.ifCond .eq 25, 3) := by decide +kernel
theorem dX10_phasesOver_7 : decode cX10_phasesOver 7 = .ok (.aload_n 0, 1) := by decide +kernel
theorem dX10_phasesOver_8 : decode cX10_phasesOver 8 = .ok (.getfield 23, 3) := by decide +kernel
theorem dX10_phasesOver_11 : decode cX10_phasesOver 11 = .ok (.aload_n 0, 1) := by decide +kernel
theorem dX10_phasesOver_12 : decode cX10_phasesOver 12 = .ok (.getfield 60, 3) := by decide +kernel
theorem dX10_phasesOver_15 : decode cX10_phasesOver 15 = .ok (.getfield 159, 3) := by decide +kernel
theorem dX10_phasesOver_18 : decode cX10_phasesOver 18 = .ok (.invokevirtual 162, 3) := by decide +kernel
theorem dX10_phasesOver_21 : decode cX10_phasesOver 21 = .ok (.bipush 6, 2) := by decide +kernel
theorem dX10_phasesOver_23 : decode cX10_phasesOver 23 = .ok (.invokestatic 401, 3) := by decide +kernel
theorem dX10_phasesOver_26 : decode cX10_phasesOver 26 = .ok (.goto 4, 3) := by decide +kernel
theorem dX10_phasesOver_29 : decode cX10_phasesOver 29 = .ok (.iconst 0, 1) := by decide +kernel
theorem dX10_phasesOver_30 : decode cX10_phasesOver 30 = .ok (.ireturn, 1) := by decide +kernel
theorem dX10_refuse_0 : decode cX10_refuse 0 = .ok (.aload_n 0, 1) := by decide +kernel
theorem dX10_refuse_1 : decode cX10_refuse 1 = .ok (.getfield 87, 3) := by decide +kernel
theorem dX10_refuse_4 : decode cX10_refuse 4 = .ok (.iload_n 1, 1) := by decide +kernel
theorem dX10_refuse_5 : decode cX10_refuse 5 = .ok (.dup2, 1) := by decide +kernel
theorem dX10_refuse_6 : decode cX10_refuse 6 = .ok (.iaload, 1) := by decide +kernel
theorem dX10_refuse_7 : decode cX10_refuse 7 = .ok (.iconst 1, 1) := by decide +kernel
theorem dX10_refuse_8 : decode cX10_refuse 8 = .ok (.iadd, 1) := by decide +kernel
theorem dX10_refuse_9 : decode cX10_refuse 9 = .ok (.iastore, 1) := by decide +kernel
theorem dX10_refuse_10 : decode cX10_refuse 10 = .ok (.iconst (-1), 1) := by decide +kernel
theorem dX10_refuse_11 : decode cX10_refuse 11 = .ok (.ireturn, 1) := by decide +kernel
theorem dX10_round_0 : decode cX10_round 0 = .ok (.aload_n 0, 1) := by decide +kernel
theorem dX10_round_1 : decode cX10_round 1 = .ok (.invokevirtual 183, 3) := by decide +kernel
theorem dX10_round_4 : decode cX10_round 4 = .ok (.iconst 1, 1) := by decide +kernel
theorem dX10_round_5 : decode cX10_round 5 = .ok (.if_icmp .ge 5, 3) := by decide +kernel
theorem dX10_round_8 : decode cX10_round 8 = .ok (.iconst (-1), 1) := by decide +kernel
theorem dX10_round_9 : decode cX10_round 9 = .ok (.ireturn, 1) := by decide +kernel
theorem dX10_round_10 : decode cX10_round 10 = .ok (.aload_n 0, 1) := by decide +kernel
theorem dX10_round_11 : decode cX10_round 11 = .ok (.getfield 73, 3) := by decide +kernel
theorem dX10_round_14 : decode cX10_round 14 = .ok (.aload_n 0, 1) := by decide +kernel
theorem dX10_round_15 : decode cX10_round 15 = .ok (.getfield 60, 3) := by decide +kernel
theorem dX10_round_18 : decode cX10_round 18 = .ok (.invokevirtual 186, 3) := by decide +kernel
theorem dX10_round_21 : decode cX10_round 21 = .ok (.aload_n 0, 1) := by decide +kernel
theorem dX10_round_22 : decode cX10_round 22 = .ok (.getfield 60, 3) := by decide +kernel
theorem dX10_round_25 : decode cX10_round 25 = .ok (.aload_n 0, 1) := by decide +kernel
theorem dX10_round_26 : decode cX10_round 26 = .ok (.getfield 23, 3) := by decide +kernel
theorem dX10_round_29 : decode cX10_round 29 = .ok (.aload_n 0, 1) := by decide +kernel
theorem dX10_round_30 : decode cX10_round 30 = .ok (.getfield 39, 3) := by decide +kernel
theorem dX10_round_33 : decode cX10_round 33 = .ok (.invokevirtual 190, 3) := by decide +kernel
theorem dX10_round_36 : decode cX10_round 36 = .ok (.aload_n 0, 1) := by decide +kernel
theorem dX10_round_37 : decode cX10_round 37 = .ok (.getfield 60, 3) := by decide +kernel
theorem dX10_round_40 : decode cX10_round 40 = .ok (.getfield 159, 3) := by decide +kernel
theorem dX10_round_43 : decode cX10_round 43 = .ok (.ireturn, 1) := by decide +kernel
theorem dX10_roundsLeft_0 : decode cX10_roundsLeft 0 = .ok (.aload_n 0, 1) := by decide +kernel
theorem dX10_roundsLeft_1 : decode cX10_roundsLeft 1 = .ok (.getfield 108, 3) := by decide +kernel
theorem dX10_roundsLeft_4 : decode cX10_roundsLeft 4 = .ok (.ifCond .eq 21, 3) := by decide +kernel
theorem dX10_roundsLeft_7 : decode cX10_roundsLeft 7 = .ok (.aload_n 0, 1) := by decide +kernel
theorem dX10_roundsLeft_8 : decode cX10_roundsLeft 8 = .ok (.getfield 23, 3) := by decide +kernel
theorem dX10_roundsLeft_11 : decode cX10_roundsLeft 11 = .ok (.invokevirtual 406, 3) := by decide +kernel
theorem dX10_roundsLeft_14 : decode cX10_roundsLeft 14 = .ok (.aload_n 0, 1) := by decide +kernel
theorem dX10_roundsLeft_15 : decode cX10_roundsLeft 15 = .ok (.getfield 60, 3) := by decide +kernel
theorem dX10_roundsLeft_18 : decode cX10_roundsLeft 18 = .ok (.getfield 159, 3) := by decide +kernel
theorem dX10_roundsLeft_21 : decode cX10_roundsLeft 21 = .ok (.isub, 1) := by decide +kernel
theorem dX10_roundsLeft_22 : decode cX10_roundsLeft 22 = .ok (.goto 4, 3) := by decide +kernel
theorem dX10_roundsLeft_25 : decode cX10_roundsLeft 25 = .ok (.iconst 0, 1) := by decide +kernel
theorem dX10_roundsLeft_26 : decode cX10_roundsLeft 26 = .ok (.ireturn, 1) := by decide +kernel
theorem dX10_rule_0 : decode cX10_rule 0 = .ok (.iload_n 1, 1) := by decide +kernel
theorem dX10_rule_1 : decode cX10_rule 1 = .ok (.bipush 10, 2) := by decide +kernel
theorem dX10_rule_3 : decode cX10_rule 3 = .ok (.if_icmp .ne 14, 3) := by decide +kernel
theorem dX10_rule_6 : decode cX10_rule 6 = .ok (.aload_n 0, 1) := by decide +kernel
theorem dX10_rule_7 : decode cX10_rule 7 = .ok (.getfield 39, 3) := by decide +kernel
theorem dX10_rule_10 : decode cX10_rule 10 = .ok (.getfield 135, 3) := by decide +kernel
theorem dX10_rule_13 : decode cX10_rule 13 = .ok (.getfield 141, 3) := by decide +kernel
theorem dX10_rule_16 : decode cX10_rule 16 = .ok (.ireturn, 1) := by decide +kernel
theorem dX10_rule_17 : decode cX10_rule 17 = .ok (.aload_n 0, 1) := by decide +kernel
theorem dX10_rule_18 : decode cX10_rule 18 = .ok (.getfield 108, 3) := by decide +kernel
theorem dX10_rule_21 : decode cX10_rule 21 = .ok (.ifCond .ne 6, 3) := by decide +kernel
theorem dX10_rule_24 : decode cX10_rule 24 = .ok (.ldc 144, 2) := by decide +kernel
theorem dX10_rule_26 : decode cX10_rule 26 = .ok (.ireturn, 1) := by decide +kernel
theorem dX10_rule_27 : decode cX10_rule 27 = .ok (.iload_n 1, 1) := by decide +kernel
theorem dX10_rule_28 : decode cX10_rule 28 = .ok (.tableswitch 174 0 11 #[64, 72, 80, 88, 96, 104, 112, 128, 143, 158, 174, 166], 64) := by decide +kernel
theorem dX10_rule_92 : decode cX10_rule 92 = .ok (.aload_n 0, 1) := by decide +kernel
theorem dX10_rule_93 : decode cX10_rule 93 = .ok (.getfield 23, 3) := by decide +kernel
theorem dX10_rule_96 : decode cX10_rule 96 = .ok (.getfield 145, 3) := by decide +kernel
theorem dX10_rule_99 : decode cX10_rule 99 = .ok (.ireturn, 1) := by decide +kernel
theorem dX10_rule_100 : decode cX10_rule 100 = .ok (.aload_n 0, 1) := by decide +kernel
theorem dX10_rule_101 : decode cX10_rule 101 = .ok (.getfield 23, 3) := by decide +kernel
theorem dX10_rule_104 : decode cX10_rule 104 = .ok (.getfield 132, 3) := by decide +kernel
theorem dX10_rule_107 : decode cX10_rule 107 = .ok (.ireturn, 1) := by decide +kernel
theorem dX10_rule_108 : decode cX10_rule 108 = .ok (.aload_n 0, 1) := by decide +kernel
theorem dX10_rule_109 : decode cX10_rule 109 = .ok (.getfield 23, 3) := by decide +kernel
theorem dX10_rule_112 : decode cX10_rule 112 = .ok (.getfield 148, 3) := by decide +kernel
theorem dX10_rule_115 : decode cX10_rule 115 = .ok (.ireturn, 1) := by decide +kernel
theorem dX10_rule_116 : decode cX10_rule 116 = .ok (.aload_n 0, 1) := by decide +kernel
theorem dX10_rule_117 : decode cX10_rule 117 = .ok (.getfield 23, 3) := by decide +kernel
theorem dX10_rule_120 : decode cX10_rule 120 = .ok (.getfield 151, 3) := by decide +kernel
theorem dX10_rule_123 : decode cX10_rule 123 = .ok (.ireturn, 1) := by decide +kernel
theorem dX10_rule_124 : decode cX10_rule 124 = .ok (.aload_n 0, 1) := by decide +kernel
theorem dX10_rule_125 : decode cX10_rule 125 = .ok (.getfield 60, 3) := by decide +kernel
theorem dX10_rule_128 : decode cX10_rule 128 = .ok (.getfield 154, 3) := by decide +kernel
theorem dX10_rule_131 : decode cX10_rule 131 = .ok (.ireturn, 1) := by decide +kernel
theorem dX10_rule_132 : decode cX10_rule 132 = .ok (.aload_n 0, 1) := by decide +kernel
theorem dX10_rule_133 : decode cX10_rule 133 = .ok (.getfield 60, 3) := by decide +kernel
theorem dX10_rule_136 : decode cX10_rule 136 = .ok (.getfield 155, 3) := by decide +kernel
theorem dX10_rule_139 : decode cX10_rule 139 = .ok (.ireturn, 1) := by decide +kernel
theorem dX10_rule_140 : decode cX10_rule 140 = .ok (.aload_n 0, 1) := by decide +kernel
theorem dX10_rule_141 : decode cX10_rule 141 = .ok (.getfield 23, 3) := by decide +kernel
theorem dX10_rule_144 : decode cX10_rule 144 = .ok (.getfield 156, 3) := by decide +kernel
theorem dX10_rule_147 : decode cX10_rule 147 = .ok (.ifCond .eq 7, 3) := by decide +kernel
theorem dX10_rule_150 : decode cX10_rule 150 = .ok (.iconst 1, 1) := by decide +kernel
theorem dX10_rule_151 : decode cX10_rule 151 = .ok (.goto 4, 3) := by decide +kernel
theorem dX10_rule_154 : decode cX10_rule 154 = .ok (.iconst 0, 1) := by decide +kernel
theorem dX10_rule_155 : decode cX10_rule 155 = .ok (.ireturn, 1) := by decide +kernel
theorem dX10_rule_156 : decode cX10_rule 156 = .ok (.aload_n 0, 1) := by decide +kernel
theorem dX10_rule_157 : decode cX10_rule 157 = .ok (.getfield 23, 3) := by decide +kernel
theorem dX10_rule_160 : decode cX10_rule 160 = .ok (.aload_n 0, 1) := by decide +kernel
theorem dX10_rule_161 : decode cX10_rule 161 = .ok (.getfield 60, 3) := by decide +kernel
theorem dX10_rule_164 : decode cX10_rule 164 = .ok (.getfield 159, 3) := by decide +kernel
theorem dX10_rule_167 : decode cX10_rule 167 = .ok (.invokevirtual 162, 3) := by decide +kernel
theorem dX10_rule_170 : decode cX10_rule 170 = .ok (.ireturn, 1) := by decide +kernel
theorem dX10_rule_171 : decode cX10_rule 171 = .ok (.aload_n 0, 1) := by decide +kernel
theorem dX10_rule_172 : decode cX10_rule 172 = .ok (.getfield 23, 3) := by decide +kernel
theorem dX10_rule_175 : decode cX10_rule 175 = .ok (.aload_n 0, 1) := by decide +kernel
theorem dX10_rule_176 : decode cX10_rule 176 = .ok (.getfield 60, 3) := by decide +kernel
theorem dX10_rule_179 : decode cX10_rule 179 = .ok (.getfield 159, 3) := by decide +kernel
theorem dX10_rule_182 : decode cX10_rule 182 = .ok (.invokevirtual 166, 3) := by decide +kernel
theorem dX10_rule_185 : decode cX10_rule 185 = .ok (.ireturn, 1) := by decide +kernel
theorem dX10_rule_186 : decode cX10_rule 186 = .ok (.aload_n 0, 1) := by decide +kernel
theorem dX10_rule_187 : decode cX10_rule 187 = .ok (.getfield 23, 3) := by decide +kernel
theorem dX10_rule_190 : decode cX10_rule 190 = .ok (.invokevirtual 169, 3) := by decide +kernel
theorem dX10_rule_193 : decode cX10_rule 193 = .ok (.ireturn, 1) := by decide +kernel
theorem dX10_rule_194 : decode cX10_rule 194 = .ok (.aload_n 0, 1) := by decide +kernel
theorem dX10_rule_195 : decode cX10_rule 195 = .ok (.getfield 60, 3) := by decide +kernel
theorem dX10_rule_198 : decode cX10_rule 198 = .ok (.getfield 173, 3) := by decide +kernel
theorem dX10_rule_201 : decode cX10_rule 201 = .ok (.ireturn, 1) := by decide +kernel
theorem dX10_rule_202 : decode cX10_rule 202 = .ok (.ldc 144, 2) := by decide +kernel
theorem dX10_rule_204 : decode cX10_rule 204 = .ok (.ireturn, 1) := by decide +kernel
theorem dX10_ruled_0 : decode cX10_ruled 0 = .ok (.aload_n 0, 1) := by decide +kernel
theorem dX10_ruled_1 : decode cX10_ruled 1 = .ok (.iload_n 1, 1) := by decide +kernel
theorem dX10_ruled_2 : decode cX10_ruled 2 = .ok (.invokevirtual 217, 3) := by decide +kernel
theorem dX10_ruled_5 : decode cX10_ruled 5 = .ok (.ifCond .eq 12, 3) := by decide +kernel
theorem dX10_ruled_8 : decode cX10_ruled 8 = .ok (.iload_n 2, 1) := by decide +kernel
theorem dX10_ruled_9 : decode cX10_ruled 9 = .ok (.ifCond .lt 8, 3) := by decide +kernel
theorem dX10_ruled_12 : decode cX10_ruled 12 = .ok (.iload_n 2, 1) := by decide +kernel
theorem dX10_ruled_13 : decode cX10_ruled 13 = .ok (.iconst 3, 1) := by decide +kernel
theorem dX10_ruled_14 : decode cX10_ruled 14 = .ok (.if_icmp .le 5, 3) := by decide +kernel
theorem dX10_ruled_17 : decode cX10_ruled 17 = .ok (.iconst (-1), 1) := by decide +kernel
theorem dX10_ruled_18 : decode cX10_ruled 18 = .ok (.ireturn, 1) := by decide +kernel
theorem dX10_ruled_19 : decode cX10_ruled 19 = .ok (.iconst 0, 1) := by decide +kernel
theorem dX10_ruled_20 : decode cX10_ruled 20 = .ok (.istore_n 3, 1) := by decide +kernel
theorem dX10_ruled_21 : decode cX10_ruled 21 = .ok (.iconst 0, 1) := by decide +kernel
theorem dX10_ruled_22 : decode cX10_ruled 22 = .ok (.istore 4, 2) := by decide +kernel
theorem dX10_ruled_24 : decode cX10_ruled 24 = .ok (.iload 4, 2) := by decide +kernel
theorem dX10_ruled_26 : decode cX10_ruled 26 = .ok (.aload_n 0, 1) := by decide +kernel
theorem dX10_ruled_27 : decode cX10_ruled 27 = .ok (.invokevirtual 273, 3) := by decide +kernel
theorem dX10_ruled_30 : decode cX10_ruled 30 = .ok (.if_icmp .ge 33, 3) := by decide +kernel
theorem dX10_ruled_33 : decode cX10_ruled 33 = .ok (.aload_n 0, 1) := by decide +kernel
theorem dX10_ruled_34 : decode cX10_ruled 34 = .ok (.getfield 23, 3) := by decide +kernel
theorem dX10_ruled_37 : decode cX10_ruled 37 = .ok (.iload 4, 2) := by decide +kernel
theorem dX10_ruled_39 : decode cX10_ruled 39 = .ok (.invokevirtual 225, 3) := by decide +kernel
theorem dX10_ruled_42 : decode cX10_ruled 42 = .ok (.iload_n 1, 1) := by decide +kernel
theorem dX10_ruled_43 : decode cX10_ruled 43 = .ok (.if_icmp .ne 14, 3) := by decide +kernel
theorem dX10_ruled_46 : decode cX10_ruled 46 = .ok (.iload_n 3, 1) := by decide +kernel
theorem dX10_ruled_47 : decode cX10_ruled 47 = .ok (.aload_n 0, 1) := by decide +kernel
theorem dX10_ruled_48 : decode cX10_ruled 48 = .ok (.iload 4, 2) := by decide +kernel
theorem dX10_ruled_50 : decode cX10_ruled 50 = .ok (.iload_n 1, 1) := by decide +kernel
theorem dX10_ruled_51 : decode cX10_ruled 51 = .ok (.iload_n 2, 1) := by decide +kernel
theorem dX10_ruled_52 : decode cX10_ruled 52 = .ok (.invokevirtual 338, 3) := by decide +kernel
theorem dX10_ruled_55 : decode cX10_ruled 55 = .ok (.iadd, 1) := by decide +kernel
theorem dX10_ruled_56 : decode cX10_ruled 56 = .ok (.istore_n 3, 1) := by decide +kernel
theorem dX10_ruled_57 : decode cX10_ruled 57 = .ok (.iinc 4 1, 3) := by decide +kernel
theorem dX10_ruled_60 : decode cX10_ruled 60 = .ok (.goto (-36), 3) := by decide +kernel
theorem dX10_ruled_63 : decode cX10_ruled 63 = .ok (.iload_n 3, 1) := by decide +kernel
theorem dX10_ruled_64 : decode cX10_ruled 64 = .ok (.ireturn, 1) := by decide +kernel
theorem dX10_run_0 : decode cX10_run 0 = .ok (.aload_n 0, 1) := by decide +kernel
theorem dX10_run_1 : decode cX10_run 1 = .ok (.invokevirtual 183, 3) := by decide +kernel
theorem dX10_run_4 : decode cX10_run 4 = .ok (.istore_n 1, 1) := by decide +kernel
theorem dX10_run_5 : decode cX10_run 5 = .ok (.iload_n 1, 1) := by decide +kernel
theorem dX10_run_6 : decode cX10_run 6 = .ok (.iconst 1, 1) := by decide +kernel
theorem dX10_run_7 : decode cX10_run 7 = .ok (.if_icmp .ge 5, 3) := by decide +kernel
theorem dX10_run_10 : decode cX10_run 10 = .ok (.iconst (-1), 1) := by decide +kernel
theorem dX10_run_11 : decode cX10_run 11 = .ok (.ireturn, 1) := by decide +kernel
theorem dX10_run_12 : decode cX10_run 12 = .ok (.iconst 0, 1) := by decide +kernel
theorem dX10_run_13 : decode cX10_run 13 = .ok (.istore_n 2, 1) := by decide +kernel
theorem dX10_run_14 : decode cX10_run 14 = .ok (.iload_n 2, 1) := by decide +kernel
theorem dX10_run_15 : decode cX10_run 15 = .ok (.iload_n 1, 1) := by decide +kernel
theorem dX10_run_16 : decode cX10_run 16 = .ok (.if_icmp .ge 35, 3) := by decide +kernel
theorem dX10_run_19 : decode cX10_run 19 = .ok (.aload_n 0, 1) := by decide +kernel
theorem dX10_run_20 : decode cX10_run 20 = .ok (.getfield 73, 3) := by decide +kernel
theorem dX10_run_23 : decode cX10_run 23 = .ok (.aload_n 0, 1) := by decide +kernel
theorem dX10_run_24 : decode cX10_run 24 = .ok (.getfield 60, 3) := by decide +kernel
theorem dX10_run_27 : decode cX10_run 27 = .ok (.invokevirtual 186, 3) := by decide +kernel
theorem dX10_run_30 : decode cX10_run 30 = .ok (.aload_n 0, 1) := by decide +kernel
theorem dX10_run_31 : decode cX10_run 31 = .ok (.getfield 60, 3) := by decide +kernel
theorem dX10_run_34 : decode cX10_run 34 = .ok (.aload_n 0, 1) := by decide +kernel
theorem dX10_run_35 : decode cX10_run 35 = .ok (.getfield 23, 3) := by decide +kernel
theorem dX10_run_38 : decode cX10_run 38 = .ok (.aload_n 0, 1) := by decide +kernel
theorem dX10_run_39 : decode cX10_run 39 = .ok (.getfield 39, 3) := by decide +kernel
theorem dX10_run_42 : decode cX10_run 42 = .ok (.invokevirtual 190, 3) := by decide +kernel
theorem dX10_run_45 : decode cX10_run 45 = .ok (.iinc 2 1, 3) := by decide +kernel
theorem dX10_run_48 : decode cX10_run 48 = .ok (.goto (-34), 3) := by decide +kernel
theorem dX10_run_51 : decode cX10_run 51 = .ok (.iload_n 1, 1) := by decide +kernel
theorem dX10_run_52 : decode cX10_run 52 = .ok (.ireturn, 1) := by decide +kernel
theorem dX10_say_0 : decode cX10_say 0 = .ok (.aload_n 0, 1) := by decide +kernel
theorem dX10_say_1 : decode cX10_say 1 = .ok (.iload_n 1, 1) := by decide +kernel
theorem dX10_say_2 : decode cX10_say 2 = .ok (.iload_n 2, 1) := by decide +kernel
theorem dX10_say_3 : decode cX10_say 3 = .ok (.iload_n 3, 1) := by decide +kernel
theorem dX10_say_4 : decode cX10_say 4 = .ok (.iload 4, 2) := by decide +kernel
theorem dX10_say_6 : decode cX10_say 6 = .ok (.iload 5, 2) := by decide +kernel
theorem dX10_say_8 : decode cX10_say 8 = .ok (.invokevirtual 194, 3) := by decide +kernel
theorem dX10_say_11 : decode cX10_say 11 = .ok (.istore 6, 2) := by decide +kernel
theorem dX10_say_13 : decode cX10_say 13 = .ok (.iload 6, 2) := by decide +kernel
theorem dX10_say_15 : decode cX10_say 15 = .ok (.iconst (-1), 1) := by decide +kernel
theorem dX10_say_16 : decode cX10_say 16 = .ok (.if_icmp .eq 10, 3) := by decide +kernel
theorem dX10_say_19 : decode cX10_say 19 = .ok (.aload_n 0, 1) := by decide +kernel
theorem dX10_say_20 : decode cX10_say 20 = .ok (.iload 6, 2) := by decide +kernel
theorem dX10_say_22 : decode cX10_say 22 = .ok (.invokevirtual 198, 3) := by decide +kernel
theorem dX10_say_25 : decode cX10_say 25 = .ok (.ireturn, 1) := by decide +kernel
theorem dX10_say_26 : decode cX10_say 26 = .ok (.aload_n 0, 1) := by decide +kernel
theorem dX10_say_27 : decode cX10_say 27 = .ok (.getfield 73, 3) := by decide +kernel
theorem dX10_say_30 : decode cX10_say 30 = .ok (.aload_n 0, 1) := by decide +kernel
theorem dX10_say_31 : decode cX10_say 31 = .ok (.getfield 60, 3) := by decide +kernel
theorem dX10_say_34 : decode cX10_say 34 = .ok (.invokevirtual 186, 3) := by decide +kernel
theorem dX10_say_37 : decode cX10_say 37 = .ok (.aload_n 0, 1) := by decide +kernel
theorem dX10_say_38 : decode cX10_say 38 = .ok (.getfield 60, 3) := by decide +kernel
theorem dX10_say_41 : decode cX10_say 41 = .ok (.iload_n 1, 1) := by decide +kernel
theorem dX10_say_42 : decode cX10_say 42 = .ok (.iload_n 2, 1) := by decide +kernel
theorem dX10_say_43 : decode cX10_say 43 = .ok (.iload_n 3, 1) := by decide +kernel
theorem dX10_say_44 : decode cX10_say 44 = .ok (.iload 4, 2) := by decide +kernel
theorem dX10_say_46 : decode cX10_say 46 = .ok (.iload 5, 2) := by decide +kernel
theorem dX10_say_48 : decode cX10_say 48 = .ok (.invokevirtual 201, 3) := by decide +kernel
theorem dX10_say_51 : decode cX10_say 51 = .ok (.aload_n 0, 1) := by decide +kernel
theorem dX10_say_52 : decode cX10_say 52 = .ok (.getfield 60, 3) := by decide +kernel
theorem dX10_say_55 : decode cX10_say 55 = .ok (.getfield 173, 3) := by decide +kernel
theorem dX10_say_58 : decode cX10_say 58 = .ok (.ireturn, 1) := by decide +kernel
theorem dX10_shown_0 : decode cX10_shown 0 = .ok (.aload_n 0, 1) := by decide +kernel
theorem dX10_shown_1 : decode cX10_shown 1 = .ok (.iload_n 1, 1) := by decide +kernel
theorem dX10_shown_2 : decode cX10_shown 2 = .ok (.invokevirtual 241, 3) := by decide +kernel
theorem dX10_shown_5 : decode cX10_shown 5 = .ok (.ifCond .ne 5, 3) := by decide +kernel
theorem dX10_shown_8 : decode cX10_shown 8 = .ok (.iconst (-1), 1) := by decide +kernel
theorem dX10_shown_9 : decode cX10_shown 9 = .ok (.ireturn, 1) := by decide +kernel
theorem dX10_shown_10 : decode cX10_shown 10 = .ok (.aload_n 0, 1) := by decide +kernel
theorem dX10_shown_11 : decode cX10_shown 11 = .ok (.getfield 23, 3) := by decide +kernel
theorem dX10_shown_14 : decode cX10_shown 14 = .ok (.iload_n 1, 1) := by decide +kernel
theorem dX10_shown_15 : decode cX10_shown 15 = .ok (.invokevirtual 225, 3) := by decide +kernel
theorem dX10_shown_18 : decode cX10_shown 18 = .ok (.istore_n 3, 1) := by decide +kernel
theorem dX10_shown_19 : decode cX10_shown 19 = .ok (.aload_n 0, 1) := by decide +kernel
theorem dX10_shown_20 : decode cX10_shown 20 = .ok (.getfield 84, 3) := by decide +kernel
theorem dX10_shown_23 : decode cX10_shown 23 = .ok (.iconst 0, 1) := by decide +kernel
theorem dX10_shown_24 : decode cX10_shown 24 = .ok (.putfield 91, 3) := by decide +kernel
theorem dX10_shown_27 : decode cX10_shown 27 = .ok (.aload_n 0, 1) := by decide +kernel
theorem dX10_shown_28 : decode cX10_shown 28 = .ok (.getfield 84, 3) := by decide +kernel
theorem dX10_shown_31 : decode cX10_shown 31 = .ok (.ldc_w 354, 3) := by decide +kernel
theorem dX10_shown_34 : decode cX10_shown 34 = .ok (.iload_n 1, 1) := by decide +kernel
theorem dX10_shown_35 : decode cX10_shown 35 = .ok (.invokevirtual 356, 3) := by decide +kernel
theorem dX10_shown_38 : decode cX10_shown 38 = .ok (.aload_n 0, 1) := by decide +kernel
theorem dX10_shown_39 : decode cX10_shown 39 = .ok (.getfield 84, 3) := by decide +kernel
theorem dX10_shown_42 : decode cX10_shown 42 = .ok (.ldc_w 360, 3) := by decide +kernel
theorem dX10_shown_45 : decode cX10_shown 45 = .ok (.iload_n 3, 1) := by decide +kernel
theorem dX10_shown_46 : decode cX10_shown 46 = .ok (.invokevirtual 356, 3) := by decide +kernel
theorem dX10_shown_49 : decode cX10_shown 49 = .ok (.iconst 0, 1) := by decide +kernel
theorem dX10_shown_50 : decode cX10_shown 50 = .ok (.istore 4, 2) := by decide +kernel
theorem dX10_shown_52 : decode cX10_shown 52 = .ok (.iload 4, 2) := by decide +kernel
theorem dX10_shown_54 : decode cX10_shown 54 = .ok (.aload_n 0, 1) := by decide +kernel
theorem dX10_shown_55 : decode cX10_shown 55 = .ok (.getfield 23, 3) := by decide +kernel
theorem dX10_shown_58 : decode cX10_shown 58 = .ok (.getfield 132, 3) := by decide +kernel
theorem dX10_shown_61 : decode cX10_shown 61 = .ok (.if_icmp .ge 168, 3) := by decide +kernel
theorem dX10_shown_64 : decode cX10_shown 64 = .ok (.aload_n 0, 1) := by decide +kernel
theorem dX10_shown_65 : decode cX10_shown 65 = .ok (.getfield 84, 3) := by decide +kernel
theorem dX10_shown_68 : decode cX10_shown 68 = .ok (.aload_n 0, 1) := by decide +kernel
theorem dX10_shown_69 : decode cX10_shown 69 = .ok (.getfield 60, 3) := by decide +kernel
theorem dX10_shown_72 : decode cX10_shown 72 = .ok (.getfield 155, 3) := by decide +kernel
theorem dX10_shown_75 : decode cX10_shown 75 = .ok (.iload 4, 2) := by decide +kernel
theorem dX10_shown_77 : decode cX10_shown 77 = .ok (.invokestatic 235, 3) := by decide +kernel
theorem dX10_shown_80 : decode cX10_shown 80 = .ok (.iconst 1, 1) := by decide +kernel
theorem dX10_shown_81 : decode cX10_shown 81 = .ok (.if_icmp .ne 9, 3) := by decide +kernel
theorem dX10_shown_84 : decode cX10_shown 84 = .ok (.ldc_w 362, 3) := by decide +kernel
theorem dX10_shown_87 : decode cX10_shown 87 = .ok (.goto 6, 3) := by decide +kernel
theorem dX10_shown_90 : decode cX10_shown 90 = .ok (.ldc_w 364, 3) := by decide +kernel
theorem dX10_shown_93 : decode cX10_shown 93 = .ok (.iload 4, 2) := by decide +kernel
theorem dX10_shown_95 : decode cX10_shown 95 = .ok (.invokevirtual 356, 3) := by decide +kernel
theorem dX10_shown_98 : decode cX10_shown 98 = .ok (.aload_n 0, 1) := by decide +kernel
theorem dX10_shown_99 : decode cX10_shown 99 = .ok (.getfield 84, 3) := by decide +kernel
theorem dX10_shown_102 : decode cX10_shown 102 = .ok (.ldc_w 366, 3) := by decide +kernel
theorem dX10_shown_105 : decode cX10_shown 105 = .ok (.aload_n 0, 1) := by decide +kernel
theorem dX10_shown_106 : decode cX10_shown 106 = .ok (.getfield 60, 3) := by decide +kernel
theorem dX10_shown_109 : decode cX10_shown 109 = .ok (.getfield 244, 3) := by decide +kernel
theorem dX10_shown_112 : decode cX10_shown 112 = .ok (.iload_n 1, 1) := by decide +kernel
theorem dX10_shown_113 : decode cX10_shown 113 = .ok (.iaload, 1) := by decide +kernel
theorem dX10_shown_114 : decode cX10_shown 114 = .ok (.iload 4, 2) := by decide +kernel
theorem dX10_shown_116 : decode cX10_shown 116 = .ok (.invokestatic 235, 3) := by decide +kernel
theorem dX10_shown_119 : decode cX10_shown 119 = .ok (.invokevirtual 356, 3) := by decide +kernel
theorem dX10_shown_122 : decode cX10_shown 122 = .ok (.aload_n 0, 1) := by decide +kernel
theorem dX10_shown_123 : decode cX10_shown 123 = .ok (.getfield 84, 3) := by decide +kernel
theorem dX10_shown_126 : decode cX10_shown 126 = .ok (.aload_n 0, 1) := by decide +kernel
theorem dX10_shown_127 : decode cX10_shown 127 = .ok (.getfield 60, 3) := by decide +kernel
theorem dX10_shown_130 : decode cX10_shown 130 = .ok (.getfield 247, 3) := by decide +kernel
theorem dX10_shown_133 : decode cX10_shown 133 = .ok (.iload_n 1, 1) := by decide +kernel
theorem dX10_shown_134 : decode cX10_shown 134 = .ok (.iaload, 1) := by decide +kernel
theorem dX10_shown_135 : decode cX10_shown 135 = .ok (.iload 4, 2) := by decide +kernel
theorem dX10_shown_137 : decode cX10_shown 137 = .ok (.invokestatic 235, 3) := by decide +kernel
theorem dX10_shown_140 : decode cX10_shown 140 = .ok (.iconst 1, 1) := by decide +kernel
theorem dX10_shown_141 : decode cX10_shown 141 = .ok (.if_icmp .ne 9, 3) := by decide +kernel
theorem dX10_shown_144 : decode cX10_shown 144 = .ok (.ldc_w 368, 3) := by decide +kernel
theorem dX10_shown_147 : decode cX10_shown 147 = .ok (.goto 6, 3) := by decide +kernel
theorem dX10_shown_150 : decode cX10_shown 150 = .ok (.ldc_w 370, 3) := by decide +kernel
theorem dX10_shown_153 : decode cX10_shown 153 = .ok (.invokevirtual 372, 3) := by decide +kernel
theorem dX10_shown_156 : decode cX10_shown 156 = .ok (.aload_n 0, 1) := by decide +kernel
theorem dX10_shown_157 : decode cX10_shown 157 = .ok (.getfield 84, 3) := by decide +kernel
theorem dX10_shown_160 : decode cX10_shown 160 = .ok (.aload_n 0, 1) := by decide +kernel
theorem dX10_shown_161 : decode cX10_shown 161 = .ok (.getfield 60, 3) := by decide +kernel
theorem dX10_shown_164 : decode cX10_shown 164 = .ok (.getfield 266, 3) := by decide +kernel
theorem dX10_shown_167 : decode cX10_shown 167 = .ok (.iload_n 1, 1) := by decide +kernel
theorem dX10_shown_168 : decode cX10_shown 168 = .ok (.iaload, 1) := by decide +kernel
theorem dX10_shown_169 : decode cX10_shown 169 = .ok (.iload 4, 2) := by decide +kernel
theorem dX10_shown_171 : decode cX10_shown 171 = .ok (.invokestatic 235, 3) := by decide +kernel
theorem dX10_shown_174 : decode cX10_shown 174 = .ok (.iconst 1, 1) := by decide +kernel
theorem dX10_shown_175 : decode cX10_shown 175 = .ok (.if_icmp .ne 9, 3) := by decide +kernel
theorem dX10_shown_178 : decode cX10_shown 178 = .ok (.ldc_w 376, 3) := by decide +kernel
theorem dX10_shown_181 : decode cX10_shown 181 = .ok (.goto 6, 3) := by decide +kernel
theorem dX10_shown_184 : decode cX10_shown 184 = .ok (.ldc_w 370, 3) := by decide +kernel
theorem dX10_shown_187 : decode cX10_shown 187 = .ok (.invokevirtual 372, 3) := by decide +kernel
theorem dX10_shown_190 : decode cX10_shown 190 = .ok (.aload_n 0, 1) := by decide +kernel
theorem dX10_shown_191 : decode cX10_shown 191 = .ok (.getfield 84, 3) := by decide +kernel
theorem dX10_shown_194 : decode cX10_shown 194 = .ok (.aload_n 0, 1) := by decide +kernel
theorem dX10_shown_195 : decode cX10_shown 195 = .ok (.getfield 60, 3) := by decide +kernel
theorem dX10_shown_198 : decode cX10_shown 198 = .ok (.iload 4, 2) := by decide +kernel
theorem dX10_shown_200 : decode cX10_shown 200 = .ok (.invokevirtual 238, 3) := by decide +kernel
theorem dX10_shown_203 : decode cX10_shown 203 = .ok (.iload_n 3, 1) := by decide +kernel
theorem dX10_shown_204 : decode cX10_shown 204 = .ok (.invokestatic 235, 3) := by decide +kernel
theorem dX10_shown_207 : decode cX10_shown 207 = .ok (.iconst 1, 1) := by decide +kernel
theorem dX10_shown_208 : decode cX10_shown 208 = .ok (.if_icmp .ne 9, 3) := by decide +kernel
theorem dX10_shown_211 : decode cX10_shown 211 = .ok (.ldc_w 378, 3) := by decide +kernel
theorem dX10_shown_214 : decode cX10_shown 214 = .ok (.goto 6, 3) := by decide +kernel
theorem dX10_shown_217 : decode cX10_shown 217 = .ok (.ldc_w 370, 3) := by decide +kernel
theorem dX10_shown_220 : decode cX10_shown 220 = .ok (.invokevirtual 372, 3) := by decide +kernel
theorem dX10_shown_223 : decode cX10_shown 223 = .ok (.iinc 4 1, 3) := by decide +kernel
theorem dX10_shown_226 : decode cX10_shown 226 = .ok (.goto (-174), 3) := by decide +kernel
theorem dX10_shown_229 : decode cX10_shown 229 = .ok (.aload_n 0, 1) := by decide +kernel
theorem dX10_shown_230 : decode cX10_shown 230 = .ok (.iload_n 2, 1) := by decide +kernel
theorem dX10_shown_231 : decode cX10_shown 231 = .ok (.invokevirtual 332, 3) := by decide +kernel
theorem dX10_shown_234 : decode cX10_shown 234 = .ok (.ireturn, 1) := by decide +kernel
theorem dX10_starts_0 : decode cX10_starts 0 = .ok (.aload_n 0, 1) := by decide +kernel
theorem dX10_starts_1 : decode cX10_starts 1 = .ok (.iload_n 1, 1) := by decide +kernel
theorem dX10_starts_2 : decode cX10_starts 2 = .ok (.aload_n 0, 1) := by decide +kernel
theorem dX10_starts_3 : decode cX10_starts 3 = .ok (.getfield 23, 3) := by decide +kernel
theorem dX10_starts_6 : decode cX10_starts 6 = .ok (.invokevirtual 205, 3) := by decide +kernel
theorem dX10_starts_9 : decode cX10_starts 9 = .ok (.invokevirtual 208, 3) := by decide +kernel
theorem dX10_starts_12 : decode cX10_starts 12 = .ok (.istore_n 2, 1) := by decide +kernel
theorem dX10_starts_13 : decode cX10_starts 13 = .ok (.iload_n 2, 1) := by decide +kernel
theorem dX10_starts_14 : decode cX10_starts 14 = .ok (.iconst (-1), 1) := by decide +kernel
theorem dX10_starts_15 : decode cX10_starts 15 = .ok (.if_icmp .eq 9, 3) := by decide +kernel
theorem dX10_starts_18 : decode cX10_starts 18 = .ok (.aload_n 0, 1) := by decide +kernel
theorem dX10_starts_19 : decode cX10_starts 19 = .ok (.iload_n 2, 1) := by decide +kernel
theorem dX10_starts_20 : decode cX10_starts 20 = .ok (.invokevirtual 198, 3) := by decide +kernel
theorem dX10_starts_23 : decode cX10_starts 23 = .ok (.ireturn, 1) := by decide +kernel
theorem dX10_starts_24 : decode cX10_starts 24 = .ok (.aload_n 0, 1) := by decide +kernel
theorem dX10_starts_25 : decode cX10_starts 25 = .ok (.getfield 60, 3) := by decide +kernel
theorem dX10_starts_28 : decode cX10_starts 28 = .ok (.getfield 154, 3) := by decide +kernel
theorem dX10_starts_31 : decode cX10_starts 31 = .ok (.istore_n 3, 1) := by decide +kernel
theorem dX10_starts_32 : decode cX10_starts 32 = .ok (.aload_n 0, 1) := by decide +kernel
theorem dX10_starts_33 : decode cX10_starts 33 = .ok (.getfield 73, 3) := by decide +kernel
theorem dX10_starts_36 : decode cX10_starts 36 = .ok (.aload_n 0, 1) := by decide +kernel
theorem dX10_starts_37 : decode cX10_starts 37 = .ok (.getfield 60, 3) := by decide +kernel
theorem dX10_starts_40 : decode cX10_starts 40 = .ok (.invokevirtual 186, 3) := by decide +kernel
theorem dX10_starts_43 : decode cX10_starts 43 = .ok (.aload_n 0, 1) := by decide +kernel
theorem dX10_starts_44 : decode cX10_starts 44 = .ok (.getfield 60, 3) := by decide +kernel
theorem dX10_starts_47 : decode cX10_starts 47 = .ok (.iload_n 1, 1) := by decide +kernel
theorem dX10_starts_48 : decode cX10_starts 48 = .ok (.putfield 154, 3) := by decide +kernel
theorem dX10_starts_51 : decode cX10_starts 51 = .ok (.aload_n 0, 1) := by decide +kernel
theorem dX10_starts_52 : decode cX10_starts 52 = .ok (.getfield 60, 3) := by decide +kernel
theorem dX10_starts_55 : decode cX10_starts 55 = .ok (.iload_n 1, 1) := by decide +kernel
theorem dX10_starts_56 : decode cX10_starts 56 = .ok (.putfield 211, 3) := by decide +kernel
theorem dX10_starts_59 : decode cX10_starts 59 = .ok (.iload_n 3, 1) := by decide +kernel
theorem dX10_starts_60 : decode cX10_starts 60 = .ok (.ireturn, 1) := by decide +kernel
theorem dX10_state_0 : decode cX10_state 0 = .ok (.aload_n 0, 1) := by decide +kernel
theorem dX10_state_1 : decode cX10_state 1 = .ok (.getfield 108, 3) := by decide +kernel
theorem dX10_state_4 : decode cX10_state 4 = .ok (.ifCond .ne 5, 3) := by decide +kernel
theorem dX10_state_7 : decode cX10_state 7 = .ok (.iconst (-1), 1) := by decide +kernel
theorem dX10_state_8 : decode cX10_state 8 = .ok (.ireturn, 1) := by decide +kernel
theorem dX10_state_9 : decode cX10_state 9 = .ok (.aload_n 0, 1) := by decide +kernel
theorem dX10_state_10 : decode cX10_state 10 = .ok (.invokevirtual 273, 3) := by decide +kernel
theorem dX10_state_13 : decode cX10_state 13 = .ok (.istore_n 2, 1) := by decide +kernel
theorem dX10_state_14 : decode cX10_state 14 = .ok (.iload_n 2, 1) := by decide +kernel
theorem dX10_state_15 : decode cX10_state 15 = .ok (.ifCond .le 17, 3) := by decide +kernel
theorem dX10_state_18 : decode cX10_state 18 = .ok (.aload_n 0, 1) := by decide +kernel
theorem dX10_state_19 : decode cX10_state 19 = .ok (.getfield 60, 3) := by decide +kernel
theorem dX10_state_22 : decode cX10_state 22 = .ok (.getfield 244, 3) := by decide +kernel
theorem dX10_state_25 : decode cX10_state 25 = .ok (.iload_n 2, 1) := by decide +kernel
theorem dX10_state_26 : decode cX10_state 26 = .ok (.iconst 1, 1) := by decide +kernel
theorem dX10_state_27 : decode cX10_state 27 = .ok (.isub, 1) := by decide +kernel
theorem dX10_state_28 : decode cX10_state 28 = .ok (.iaload, 1) := by decide +kernel
theorem dX10_state_29 : decode cX10_state 29 = .ok (.goto 10, 3) := by decide +kernel
theorem dX10_state_32 : decode cX10_state 32 = .ok (.aload_n 0, 1) := by decide +kernel
theorem dX10_state_33 : decode cX10_state 33 = .ok (.getfield 60, 3) := by decide +kernel
theorem dX10_state_36 : decode cX10_state 36 = .ok (.getfield 154, 3) := by decide +kernel
theorem dX10_state_39 : decode cX10_state 39 = .ok (.istore_n 3, 1) := by decide +kernel
theorem dX10_state_40 : decode cX10_state 40 = .ok (.iload_n 1, 1) := by decide +kernel
theorem dX10_state_41 : decode cX10_state 41 = .ok (.tableswitch 125 0 3 #[31, 52, 69, 98], 31) := by decide +kernel
theorem dX10_state_72 : decode cX10_state 72 = .ok (.aload_n 0, 1) := by decide +kernel
theorem dX10_state_73 : decode cX10_state 73 = .ok (.getfield 60, 3) := by decide +kernel
theorem dX10_state_76 : decode cX10_state 76 = .ok (.aload_n 0, 1) := by decide +kernel
theorem dX10_state_77 : decode cX10_state 77 = .ok (.getfield 23, 3) := by decide +kernel
theorem dX10_state_80 : decode cX10_state 80 = .ok (.iload_n 3, 1) := by decide +kernel
theorem dX10_state_81 : decode cX10_state 81 = .ok (.invokevirtual 276, 3) := by decide +kernel
theorem dX10_state_84 : decode cX10_state 84 = .ok (.ifCond .eq 7, 3) := by decide +kernel
theorem dX10_state_87 : decode cX10_state 87 = .ok (.iconst 1, 1) := by decide +kernel
theorem dX10_state_88 : decode cX10_state 88 = .ok (.goto 4, 3) := by decide +kernel
theorem dX10_state_91 : decode cX10_state 91 = .ok (.iconst 0, 1) := by decide +kernel
theorem dX10_state_92 : decode cX10_state 92 = .ok (.ireturn, 1) := by decide +kernel
theorem dX10_state_93 : decode cX10_state 93 = .ok (.iload_n 3, 1) := by decide +kernel
theorem dX10_state_94 : decode cX10_state 94 = .ok (.aload_n 0, 1) := by decide +kernel
theorem dX10_state_95 : decode cX10_state 95 = .ok (.getfield 60, 3) := by decide +kernel
theorem dX10_state_98 : decode cX10_state 98 = .ok (.aload_n 0, 1) := by decide +kernel
theorem dX10_state_99 : decode cX10_state 99 = .ok (.getfield 23, 3) := by decide +kernel
theorem dX10_state_102 : decode cX10_state 102 = .ok (.invokevirtual 280, 3) := by decide +kernel
theorem dX10_state_105 : decode cX10_state 105 = .ok (.iand, 1) := by decide +kernel
theorem dX10_state_106 : decode cX10_state 106 = .ok (.invokestatic 283, 3) := by decide +kernel
theorem dX10_state_109 : decode cX10_state 109 = .ok (.ireturn, 1) := by decide +kernel
theorem dX10_state_110 : decode cX10_state 110 = .ok (.aload_n 0, 1) := by decide +kernel
theorem dX10_state_111 : decode cX10_state 111 = .ok (.getfield 60, 3) := by decide +kernel
theorem dX10_state_114 : decode cX10_state 114 = .ok (.aload_n 0, 1) := by decide +kernel
theorem dX10_state_115 : decode cX10_state 115 = .ok (.getfield 23, 3) := by decide +kernel
theorem dX10_state_118 : decode cX10_state 118 = .ok (.iload_n 3, 1) := by decide +kernel
theorem dX10_state_119 : decode cX10_state 119 = .ok (.invokevirtual 276, 3) := by decide +kernel
theorem dX10_state_122 : decode cX10_state 122 = .ok (.ifCond .eq 15, 3) := by decide +kernel
theorem dX10_state_125 : decode cX10_state 125 = .ok (.aload_n 0, 1) := by decide +kernel
theorem dX10_state_126 : decode cX10_state 126 = .ok (.iload_n 3, 1) := by decide +kernel
theorem dX10_state_127 : decode cX10_state 127 = .ok (.invokevirtual 288, 3) := by decide +kernel
theorem dX10_state_130 : decode cX10_state 130 = .ok (.ifCond .eq 7, 3) := by decide +kernel
theorem dX10_state_133 : decode cX10_state 133 = .ok (.iconst 1, 1) := by decide +kernel
theorem dX10_state_134 : decode cX10_state 134 = .ok (.goto 4, 3) := by decide +kernel
theorem dX10_state_137 : decode cX10_state 137 = .ok (.iconst 0, 1) := by decide +kernel
theorem dX10_state_138 : decode cX10_state 138 = .ok (.ireturn, 1) := by decide +kernel
theorem dX10_state_139 : decode cX10_state 139 = .ok (.aload_n 0, 1) := by decide +kernel
theorem dX10_state_140 : decode cX10_state 140 = .ok (.getfield 60, 3) := by decide +kernel
theorem dX10_state_143 : decode cX10_state 143 = .ok (.aload_n 0, 1) := by decide +kernel
theorem dX10_state_144 : decode cX10_state 144 = .ok (.getfield 23, 3) := by decide +kernel
theorem dX10_state_147 : decode cX10_state 147 = .ok (.aload_n 0, 1) := by decide +kernel
theorem dX10_state_148 : decode cX10_state 148 = .ok (.getfield 60, 3) := by decide +kernel
theorem dX10_state_151 : decode cX10_state 151 = .ok (.getfield 154, 3) := by decide +kernel
theorem dX10_state_154 : decode cX10_state 154 = .ok (.invokevirtual 276, 3) := by decide +kernel
theorem dX10_state_157 : decode cX10_state 157 = .ok (.ifCond .eq 7, 3) := by decide +kernel
theorem dX10_state_160 : decode cX10_state 160 = .ok (.iconst 1, 1) := by decide +kernel
theorem dX10_state_161 : decode cX10_state 161 = .ok (.goto 4, 3) := by decide +kernel
theorem dX10_state_164 : decode cX10_state 164 = .ok (.iconst 0, 1) := by decide +kernel
theorem dX10_state_165 : decode cX10_state 165 = .ok (.ireturn, 1) := by decide +kernel
theorem dX10_state_166 : decode cX10_state 166 = .ok (.iconst (-1), 1) := by decide +kernel
theorem dX10_state_167 : decode cX10_state 167 = .ok (.ireturn, 1) := by decide +kernel
theorem dX10_status_0 : decode cX10_status 0 = .ok (.iload_n 1, 1) := by decide +kernel
theorem dX10_status_1 : decode cX10_status 1 = .ok (.ifCond .lt 12, 3) := by decide +kernel
theorem dX10_status_4 : decode cX10_status 4 = .ok (.iload_n 1, 1) := by decide +kernel
theorem dX10_status_5 : decode cX10_status 5 = .ok (.aload_n 0, 1) := by decide +kernel
theorem dX10_status_6 : decode cX10_status 6 = .ok (.getfield 87, 3) := by decide +kernel
theorem dX10_status_9 : decode cX10_status 9 = .ok (.arraylength, 1) := by decide +kernel
theorem dX10_status_10 : decode cX10_status 10 = .ok (.if_icmp .lt 7, 3) := by decide +kernel
theorem dX10_status_13 : decode cX10_status 13 = .ok (.iconst (-1), 1) := by decide +kernel
theorem dX10_status_14 : decode cX10_status 14 = .ok (.goto 9, 3) := by decide +kernel
theorem dX10_status_17 : decode cX10_status 17 = .ok (.aload_n 0, 1) := by decide +kernel
theorem dX10_status_18 : decode cX10_status 18 = .ok (.getfield 87, 3) := by decide +kernel
theorem dX10_status_21 : decode cX10_status 21 = .ok (.iload_n 1, 1) := by decide +kernel
theorem dX10_status_22 : decode cX10_status 22 = .ok (.iaload, 1) := by decide +kernel
theorem dX10_status_23 : decode cX10_status 23 = .ok (.ireturn, 1) := by decide +kernel
theorem dX10_told_0 : decode cX10_told 0 = .ok (.aload_n 0, 1) := by decide +kernel
theorem dX10_told_1 : decode cX10_told 1 = .ok (.iload_n 1, 1) := by decide +kernel
theorem dX10_told_2 : decode cX10_told 2 = .ok (.invokevirtual 217, 3) := by decide +kernel
theorem dX10_told_5 : decode cX10_told 5 = .ok (.ifCond .eq 11, 3) := by decide +kernel
theorem dX10_told_8 : decode cX10_told 8 = .ok (.aload_n 0, 1) := by decide +kernel
theorem dX10_told_9 : decode cX10_told 9 = .ok (.iload_n 2, 1) := by decide +kernel
theorem dX10_told_10 : decode cX10_told 10 = .ok (.invokevirtual 241, 3) := by decide +kernel
theorem dX10_told_13 : decode cX10_told 13 = .ok (.ifCond .ne 5, 3) := by decide +kernel
theorem dX10_told_16 : decode cX10_told 16 = .ok (.iconst (-1), 1) := by decide +kernel
theorem dX10_told_17 : decode cX10_told 17 = .ok (.ireturn, 1) := by decide +kernel
theorem dX10_told_18 : decode cX10_told 18 = .ok (.aload_n 0, 1) := by decide +kernel
theorem dX10_told_19 : decode cX10_told 19 = .ok (.getfield 23, 3) := by decide +kernel
theorem dX10_told_22 : decode cX10_told 22 = .ok (.getfield 145, 3) := by decide +kernel
theorem dX10_told_25 : decode cX10_told 25 = .ok (.iconst 1, 1) := by decide +kernel
theorem dX10_told_26 : decode cX10_told 26 = .ok (.if_icmp .ne 7, 3) := by decide +kernel
theorem dX10_told_29 : decode cX10_told 29 = .ok (.iconst 1, 1) := by decide +kernel
theorem dX10_told_30 : decode cX10_told 30 = .ok (.goto 4, 3) := by decide +kernel
theorem dX10_told_33 : decode cX10_told 33 = .ok (.iconst 0, 1) := by decide +kernel
theorem dX10_told_34 : decode cX10_told 34 = .ok (.istore 4, 2) := by decide +kernel
theorem dX10_told_36 : decode cX10_told 36 = .ok (.iload_n 3, 1) := by decide +kernel
theorem dX10_told_37 : decode cX10_told 37 = .ok (.tableswitch 173 0 7 #[47, 61, 75, 90, 101, 115, 139, 159], 47) := by decide +kernel
theorem dX10_told_84 : decode cX10_told 84 = .ok (.aload_n 0, 1) := by decide +kernel
theorem dX10_told_85 : decode cX10_told 85 = .ok (.getfield 60, 3) := by decide +kernel
theorem dX10_told_88 : decode cX10_told 88 = .ok (.getfield 244, 3) := by decide +kernel
theorem dX10_told_91 : decode cX10_told 91 = .ok (.iload_n 2, 1) := by decide +kernel
theorem dX10_told_92 : decode cX10_told 92 = .ok (.iaload, 1) := by decide +kernel
theorem dX10_told_93 : decode cX10_told 93 = .ok (.iload_n 1, 1) := by decide +kernel
theorem dX10_told_94 : decode cX10_told 94 = .ok (.invokestatic 235, 3) := by decide +kernel
theorem dX10_told_97 : decode cX10_told 97 = .ok (.ireturn, 1) := by decide +kernel
theorem dX10_told_98 : decode cX10_told 98 = .ok (.aload_n 0, 1) := by decide +kernel
theorem dX10_told_99 : decode cX10_told 99 = .ok (.getfield 60, 3) := by decide +kernel
theorem dX10_told_102 : decode cX10_told 102 = .ok (.getfield 247, 3) := by decide +kernel
theorem dX10_told_105 : decode cX10_told 105 = .ok (.iload_n 2, 1) := by decide +kernel
theorem dX10_told_106 : decode cX10_told 106 = .ok (.iaload, 1) := by decide +kernel
theorem dX10_told_107 : decode cX10_told 107 = .ok (.iload_n 1, 1) := by decide +kernel
theorem dX10_told_108 : decode cX10_told 108 = .ok (.invokestatic 235, 3) := by decide +kernel
theorem dX10_told_111 : decode cX10_told 111 = .ok (.ireturn, 1) := by decide +kernel
theorem dX10_told_112 : decode cX10_told 112 = .ok (.aload_n 0, 1) := by decide +kernel
theorem dX10_told_113 : decode cX10_told 113 = .ok (.getfield 60, 3) := by decide +kernel
theorem dX10_told_116 : decode cX10_told 116 = .ok (.aload_n 0, 1) := by decide +kernel
theorem dX10_told_117 : decode cX10_told 117 = .ok (.getfield 23, 3) := by decide +kernel
theorem dX10_told_120 : decode cX10_told 120 = .ok (.iload_n 2, 1) := by decide +kernel
theorem dX10_told_121 : decode cX10_told 121 = .ok (.iconst 0, 1) := by decide +kernel
theorem dX10_told_122 : decode cX10_told 122 = .ok (.iload_n 1, 1) := by decide +kernel
theorem dX10_told_123 : decode cX10_told 123 = .ok (.invokevirtual 250, 3) := by decide +kernel
theorem dX10_told_126 : decode cX10_told 126 = .ok (.ireturn, 1) := by decide +kernel
theorem dX10_told_127 : decode cX10_told 127 = .ok (.aload_n 0, 1) := by decide +kernel
theorem dX10_told_128 : decode cX10_told 128 = .ok (.getfield 60, 3) := by decide +kernel
theorem dX10_told_131 : decode cX10_told 131 = .ok (.iload_n 2, 1) := by decide +kernel
theorem dX10_told_132 : decode cX10_told 132 = .ok (.iconst 0, 1) := by decide +kernel
theorem dX10_told_133 : decode cX10_told 133 = .ok (.iload_n 1, 1) := by decide +kernel
theorem dX10_told_134 : decode cX10_told 134 = .ok (.invokevirtual 254, 3) := by decide +kernel
theorem dX10_told_137 : decode cX10_told 137 = .ok (.ireturn, 1) := by decide +kernel
theorem dX10_told_138 : decode cX10_told 138 = .ok (.aload_n 0, 1) := by decide +kernel
theorem dX10_told_139 : decode cX10_told 139 = .ok (.getfield 60, 3) := by decide +kernel
theorem dX10_told_142 : decode cX10_told 142 = .ok (.getfield 258, 3) := by decide +kernel
theorem dX10_told_145 : decode cX10_told 145 = .ok (.iload_n 2, 1) := by decide +kernel
theorem dX10_told_146 : decode cX10_told 146 = .ok (.laload, 1) := by decide +kernel
theorem dX10_told_147 : decode cX10_told 147 = .ok (.iload_n 1, 1) := by decide +kernel
theorem dX10_told_148 : decode cX10_told 148 = .ok (.invokestatic 262, 3) := by decide +kernel
theorem dX10_told_151 : decode cX10_told 151 = .ok (.ireturn, 1) := by decide +kernel
theorem dX10_told_152 : decode cX10_told 152 = .ok (.iload 4, 2) := by decide +kernel
theorem dX10_told_154 : decode cX10_told 154 = .ok (.ifCond .eq 7, 3) := by decide +kernel
theorem dX10_told_157 : decode cX10_told 157 = .ok (.iconst (-1), 1) := by decide +kernel
theorem dX10_told_158 : decode cX10_told 158 = .ok (.goto 17, 3) := by decide +kernel
theorem dX10_told_161 : decode cX10_told 161 = .ok (.aload_n 0, 1) := by decide +kernel
theorem dX10_told_162 : decode cX10_told 162 = .ok (.getfield 60, 3) := by decide +kernel
theorem dX10_told_165 : decode cX10_told 165 = .ok (.aload_n 0, 1) := by decide +kernel
theorem dX10_told_166 : decode cX10_told 166 = .ok (.getfield 23, 3) := by decide +kernel
theorem dX10_told_169 : decode cX10_told 169 = .ok (.iload_n 2, 1) := by decide +kernel
theorem dX10_told_170 : decode cX10_told 170 = .ok (.iconst 1, 1) := by decide +kernel
theorem dX10_told_171 : decode cX10_told 171 = .ok (.iload_n 1, 1) := by decide +kernel
theorem dX10_told_172 : decode cX10_told 172 = .ok (.invokevirtual 250, 3) := by decide +kernel
theorem dX10_told_175 : decode cX10_told 175 = .ok (.ireturn, 1) := by decide +kernel
theorem dX10_told_176 : decode cX10_told 176 = .ok (.iload 4, 2) := by decide +kernel
theorem dX10_told_178 : decode cX10_told 178 = .ok (.ifCond .eq 7, 3) := by decide +kernel
theorem dX10_told_181 : decode cX10_told 181 = .ok (.iconst (-1), 1) := by decide +kernel
theorem dX10_told_182 : decode cX10_told 182 = .ok (.goto 13, 3) := by decide +kernel
theorem dX10_told_185 : decode cX10_told 185 = .ok (.aload_n 0, 1) := by decide +kernel
theorem dX10_told_186 : decode cX10_told 186 = .ok (.getfield 60, 3) := by decide +kernel
theorem dX10_told_189 : decode cX10_told 189 = .ok (.iload_n 2, 1) := by decide +kernel
theorem dX10_told_190 : decode cX10_told 190 = .ok (.iconst 1, 1) := by decide +kernel
theorem dX10_told_191 : decode cX10_told 191 = .ok (.iload_n 1, 1) := by decide +kernel
theorem dX10_told_192 : decode cX10_told 192 = .ok (.invokevirtual 254, 3) := by decide +kernel
theorem dX10_told_195 : decode cX10_told 195 = .ok (.ireturn, 1) := by decide +kernel
theorem dX10_told_196 : decode cX10_told 196 = .ok (.aload_n 0, 1) := by decide +kernel
theorem dX10_told_197 : decode cX10_told 197 = .ok (.getfield 60, 3) := by decide +kernel
theorem dX10_told_200 : decode cX10_told 200 = .ok (.getfield 266, 3) := by decide +kernel
theorem dX10_told_203 : decode cX10_told 203 = .ok (.iload_n 2, 1) := by decide +kernel
theorem dX10_told_204 : decode cX10_told 204 = .ok (.iaload, 1) := by decide +kernel
theorem dX10_told_205 : decode cX10_told 205 = .ok (.iload_n 1, 1) := by decide +kernel
theorem dX10_told_206 : decode cX10_told 206 = .ok (.invokestatic 235, 3) := by decide +kernel
theorem dX10_told_209 : decode cX10_told 209 = .ok (.ireturn, 1) := by decide +kernel
theorem dX10_told_210 : decode cX10_told 210 = .ok (.iconst (-1), 1) := by decide +kernel
theorem dX10_told_211 : decode cX10_told 211 = .ok (.ireturn, 1) := by decide +kernel
theorem dX10_trueRuler_0 : decode cX10_trueRuler 0 = .ok (.iconst 0, 1) := by decide +kernel
theorem dX10_trueRuler_1 : decode cX10_trueRuler 1 = .ok (.istore_n 1, 1) := by decide +kernel
theorem dX10_trueRuler_2 : decode cX10_trueRuler 2 = .ok (.aload_n 0, 1) := by decide +kernel
theorem dX10_trueRuler_3 : decode cX10_trueRuler 3 = .ok (.getfield 108, 3) := by decide +kernel
theorem dX10_trueRuler_6 : decode cX10_trueRuler 6 = .ok (.ifCond .eq 43, 3) := by decide +kernel
theorem dX10_trueRuler_9 : decode cX10_trueRuler 9 = .ok (.iload_n 1, 1) := by decide +kernel
theorem dX10_trueRuler_10 : decode cX10_trueRuler 10 = .ok (.aload_n 0, 1) := by decide +kernel
theorem dX10_trueRuler_11 : decode cX10_trueRuler 11 = .ok (.getfield 23, 3) := by decide +kernel
theorem dX10_trueRuler_14 : decode cX10_trueRuler 14 = .ok (.getfield 151, 3) := by decide +kernel
theorem dX10_trueRuler_17 : decode cX10_trueRuler 17 = .ok (.if_icmp .ge 32, 3) := by decide +kernel
theorem dX10_trueRuler_20 : decode cX10_trueRuler 20 = .ok (.aload_n 0, 1) := by decide +kernel
theorem dX10_trueRuler_21 : decode cX10_trueRuler 21 = .ok (.getfield 60, 3) := by decide +kernel
theorem dX10_trueRuler_24 : decode cX10_trueRuler 24 = .ok (.getfield 155, 3) := by decide +kernel
theorem dX10_trueRuler_27 : decode cX10_trueRuler 27 = .ok (.aload_n 0, 1) := by decide +kernel
theorem dX10_trueRuler_28 : decode cX10_trueRuler 28 = .ok (.getfield 23, 3) := by decide +kernel
theorem dX10_trueRuler_31 : decode cX10_trueRuler 31 = .ok (.iload_n 1, 1) := by decide +kernel
theorem dX10_trueRuler_32 : decode cX10_trueRuler 32 = .ok (.invokevirtual 225, 3) := by decide +kernel
theorem dX10_trueRuler_35 : decode cX10_trueRuler 35 = .ok (.invokestatic 235, 3) := by decide +kernel
theorem dX10_trueRuler_38 : decode cX10_trueRuler 38 = .ok (.ifCond .ne 5, 3) := by decide +kernel
theorem dX10_trueRuler_41 : decode cX10_trueRuler 41 = .ok (.iload_n 1, 1) := by decide +kernel
theorem dX10_trueRuler_42 : decode cX10_trueRuler 42 = .ok (.ireturn, 1) := by decide +kernel
theorem dX10_trueRuler_43 : decode cX10_trueRuler 43 = .ok (.iinc 1 1, 3) := by decide +kernel
theorem dX10_trueRuler_46 : decode cX10_trueRuler 46 = .ok (.goto (-44), 3) := by decide +kernel
theorem dX10_trueRuler_49 : decode cX10_trueRuler 49 = .ok (.iconst (-1), 1) := by decide +kernel
theorem dX10_trueRuler_50 : decode cX10_trueRuler 50 = .ok (.ireturn, 1) := by decide +kernel
theorem dX10_undo_0 : decode cX10_undo 0 = .ok (.aload_n 0, 1) := by decide +kernel
theorem dX10_undo_1 : decode cX10_undo 1 = .ok (.getfield 73, 3) := by decide +kernel
theorem dX10_undo_4 : decode cX10_undo 4 = .ok (.aload_n 0, 1) := by decide +kernel
theorem dX10_undo_5 : decode cX10_undo 5 = .ok (.getfield 60, 3) := by decide +kernel
theorem dX10_undo_8 : decode cX10_undo 8 = .ok (.invokevirtual 380, 3) := by decide +kernel
theorem dX10_undo_11 : decode cX10_undo 11 = .ok (.ifCond .eq 13, 3) := by decide +kernel
theorem dX10_undo_14 : decode cX10_undo 14 = .ok (.aload_n 0, 1) := by decide +kernel
theorem dX10_undo_15 : decode cX10_undo 15 = .ok (.getfield 73, 3) := by decide +kernel
theorem dX10_undo_18 : decode cX10_undo 18 = .ok (.getfield 119, 3) := by decide +kernel
theorem dX10_undo_21 : decode cX10_undo 21 = .ok (.goto 4, 3) := by decide +kernel
theorem dX10_undo_24 : decode cX10_undo 24 = .ok (.iconst (-1), 1) := by decide +kernel
theorem dX10_undo_25 : decode cX10_undo 25 = .ok (.ireturn, 1) := by decide +kernel
theorem dX10_weakest_0 : decode cX10_weakest 0 = .ok (.aload_n 0, 1) := by decide +kernel
theorem dX10_weakest_1 : decode cX10_weakest 1 = .ok (.getfield 108, 3) := by decide +kernel
theorem dX10_weakest_4 : decode cX10_weakest 4 = .ok (.ifCond .ne 6, 3) := by decide +kernel
theorem dX10_weakest_7 : decode cX10_weakest 7 = .ok (.bipush (-2), 2) := by decide +kernel
theorem dX10_weakest_9 : decode cX10_weakest 9 = .ok (.ireturn, 1) := by decide +kernel
theorem dX10_weakest_10 : decode cX10_weakest 10 = .ok (.iconst (-1), 1) := by decide +kernel
theorem dX10_weakest_11 : decode cX10_weakest 11 = .ok (.istore_n 1, 1) := by decide +kernel
theorem dX10_weakest_12 : decode cX10_weakest 12 = .ok (.aload_n 0, 1) := by decide +kernel
theorem dX10_weakest_13 : decode cX10_weakest 13 = .ok (.getfield 23, 3) := by decide +kernel
theorem dX10_weakest_16 : decode cX10_weakest 16 = .ok (.getfield 132, 3) := by decide +kernel
theorem dX10_weakest_19 : decode cX10_weakest 19 = .ok (.iconst 1, 1) := by decide +kernel
theorem dX10_weakest_20 : decode cX10_weakest 20 = .ok (.isub, 1) := by decide +kernel
theorem dX10_weakest_21 : decode cX10_weakest 21 = .ok (.istore_n 2, 1) := by decide +kernel
theorem dX10_weakest_22 : decode cX10_weakest 22 = .ok (.iload_n 2, 1) := by decide +kernel
theorem dX10_weakest_23 : decode cX10_weakest 23 = .ok (.ifCond .lt 99, 3) := by decide +kernel
theorem dX10_weakest_26 : decode cX10_weakest 26 = .ok (.aload_n 0, 1) := by decide +kernel
theorem dX10_weakest_27 : decode cX10_weakest 27 = .ok (.getfield 60, 3) := by decide +kernel
theorem dX10_weakest_30 : decode cX10_weakest 30 = .ok (.getfield 155, 3) := by decide +kernel
theorem dX10_weakest_33 : decode cX10_weakest 33 = .ok (.iconst 1, 1) := by decide +kernel
theorem dX10_weakest_34 : decode cX10_weakest 34 = .ok (.iload_n 2, 1) := by decide +kernel
theorem dX10_weakest_35 : decode cX10_weakest 35 = .ok (.ishl, 1) := by decide +kernel
theorem dX10_weakest_36 : decode cX10_weakest 36 = .ok (.ior, 1) := by decide +kernel
theorem dX10_weakest_37 : decode cX10_weakest 37 = .ok (.istore_n 3, 1) := by decide +kernel
theorem dX10_weakest_38 : decode cX10_weakest 38 = .ok (.iload_n 3, 1) := by decide +kernel
theorem dX10_weakest_39 : decode cX10_weakest 39 = .ok (.aload_n 0, 1) := by decide +kernel
theorem dX10_weakest_40 : decode cX10_weakest 40 = .ok (.getfield 60, 3) := by decide +kernel
theorem dX10_weakest_43 : decode cX10_weakest 43 = .ok (.getfield 155, 3) := by decide +kernel
theorem dX10_weakest_46 : decode cX10_weakest 46 = .ok (.if_icmp .eq 70, 3) := by decide +kernel
theorem dX10_weakest_49 : decode cX10_weakest 49 = .ok (.iload_n 3, 1) := by decide +kernel
theorem dX10_weakest_50 : decode cX10_weakest 50 = .ok (.aload_n 0, 1) := by decide +kernel
theorem dX10_weakest_51 : decode cX10_weakest 51 = .ok (.getfield 23, 3) := by decide +kernel
theorem dX10_weakest_54 : decode cX10_weakest 54 = .ok (.invokevirtual 205, 3) := by decide +kernel
theorem dX10_weakest_57 : decode cX10_weakest 57 = .ok (.if_icmp .ne 6, 3) := by decide +kernel
theorem dX10_weakest_60 : decode cX10_weakest 60 = .ok (.goto 56, 3) := by decide +kernel
theorem dX10_weakest_63 : decode cX10_weakest 63 = .ok (.aload_n 0, 1) := by decide +kernel
theorem dX10_weakest_64 : decode cX10_weakest 64 = .ok (.iload_n 3, 1) := by decide +kernel
theorem dX10_weakest_65 : decode cX10_weakest 65 = .ok (.invokevirtual 309, 3) := by decide +kernel
theorem dX10_weakest_68 : decode cX10_weakest 68 = .ok (.ifCond .ne 6, 3) := by decide +kernel
theorem dX10_weakest_71 : decode cX10_weakest 71 = .ok (.bipush (-2), 2) := by decide +kernel
theorem dX10_weakest_73 : decode cX10_weakest 73 = .ok (.ireturn, 1) := by decide +kernel
theorem dX10_weakest_74 : decode cX10_weakest 74 = .ok (.aload_n 0, 1) := by decide +kernel
theorem dX10_weakest_75 : decode cX10_weakest 75 = .ok (.getfield 80, 3) := by decide +kernel
theorem dX10_weakest_78 : decode cX10_weakest 78 = .ok (.aload_n 0, 1) := by decide +kernel
theorem dX10_weakest_79 : decode cX10_weakest 79 = .ok (.getfield 23, 3) := by decide +kernel
theorem dX10_weakest_82 : decode cX10_weakest 82 = .ok (.iload_n 3, 1) := by decide +kernel
theorem dX10_weakest_83 : decode cX10_weakest 83 = .ok (.aload_n 0, 1) := by decide +kernel
theorem dX10_weakest_84 : decode cX10_weakest 84 = .ok (.getfield 23, 3) := by decide +kernel
theorem dX10_weakest_87 : decode cX10_weakest 87 = .ok (.getfield 151, 3) := by decide +kernel
theorem dX10_weakest_90 : decode cX10_weakest 90 = .ok (.invokevirtual 312, 3) := by decide +kernel
theorem dX10_weakest_93 : decode cX10_weakest 93 = .ok (.aload_n 0, 1) := by decide +kernel
theorem dX10_weakest_94 : decode cX10_weakest 94 = .ok (.getfield 80, 3) := by decide +kernel
theorem dX10_weakest_97 : decode cX10_weakest 97 = .ok (.aload_n 0, 1) := by decide +kernel
theorem dX10_weakest_98 : decode cX10_weakest 98 = .ok (.getfield 60, 3) := by decide +kernel
theorem dX10_weakest_101 : decode cX10_weakest 101 = .ok (.getfield 154, 3) := by decide +kernel
theorem dX10_weakest_104 : decode cX10_weakest 104 = .ok (.invokevirtual 335, 3) := by decide +kernel
theorem dX10_weakest_107 : decode cX10_weakest 107 = .ok (.ifCond .eq 7, 3) := by decide +kernel
theorem dX10_weakest_110 : decode cX10_weakest 110 = .ok (.iload_n 2, 1) := by decide +kernel
theorem dX10_weakest_111 : decode cX10_weakest 111 = .ok (.goto 4, 3) := by decide +kernel
theorem dX10_weakest_114 : decode cX10_weakest 114 = .ok (.iload_n 1, 1) := by decide +kernel
theorem dX10_weakest_115 : decode cX10_weakest 115 = .ok (.istore_n 1, 1) := by decide +kernel
theorem dX10_weakest_116 : decode cX10_weakest 116 = .ok (.iinc 2 (-1), 3) := by decide +kernel
theorem dX10_weakest_119 : decode cX10_weakest 119 = .ok (.goto (-97), 3) := by decide +kernel
theorem dX10_weakest_122 : decode cX10_weakest 122 = .ok (.iload_n 1, 1) := by decide +kernel
theorem dX10_weakest_123 : decode cX10_weakest 123 = .ok (.ireturn, 1) := by decide +kernel
theorem dX10_whyNotSaid_0 : decode cX10_whyNotSaid 0 = .ok (.aload_n 0, 1) := by decide +kernel
theorem dX10_whyNotSaid_1 : decode cX10_whyNotSaid 1 = .ok (.getfield 108, 3) := by decide +kernel
theorem dX10_whyNotSaid_4 : decode cX10_whyNotSaid 4 = .ok (.ifCond .ne 5, 3) := by decide +kernel
theorem dX10_whyNotSaid_7 : decode cX10_whyNotSaid 7 = .ok (.iconst 0, 1) := by decide +kernel
theorem dX10_whyNotSaid_8 : decode cX10_whyNotSaid 8 = .ok (.ireturn, 1) := by decide +kernel
theorem dX10_whyNotSaid_9 : decode cX10_whyNotSaid 9 = .ok (.aload_n 0, 1) := by decide +kernel
theorem dX10_whyNotSaid_10 : decode cX10_whyNotSaid 10 = .ok (.iload_n 1, 1) := by decide +kernel
theorem dX10_whyNotSaid_11 : decode cX10_whyNotSaid 11 = .ok (.iload_n 2, 1) := by decide +kernel
theorem dX10_whyNotSaid_12 : decode cX10_whyNotSaid 12 = .ok (.invokevirtual 221, 3) := by decide +kernel
theorem dX10_whyNotSaid_15 : decode cX10_whyNotSaid 15 = .ok (.ifCond .eq 31, 3) := by decide +kernel
theorem dX10_whyNotSaid_18 : decode cX10_whyNotSaid 18 = .ok (.aload_n 0, 1) := by decide +kernel
theorem dX10_whyNotSaid_19 : decode cX10_whyNotSaid 19 = .ok (.iload_n 3, 1) := by decide +kernel
theorem dX10_whyNotSaid_20 : decode cX10_whyNotSaid 20 = .ok (.invokevirtual 217, 3) := by decide +kernel
theorem dX10_whyNotSaid_23 : decode cX10_whyNotSaid 23 = .ok (.ifCond .eq 23, 3) := by decide +kernel
theorem dX10_whyNotSaid_26 : decode cX10_whyNotSaid 26 = .ok (.aload_n 0, 1) := by decide +kernel
theorem dX10_whyNotSaid_27 : decode cX10_whyNotSaid 27 = .ok (.iload 4, 2) := by decide +kernel
theorem dX10_whyNotSaid_29 : decode cX10_whyNotSaid 29 = .ok (.invokevirtual 217, 3) := by decide +kernel
theorem dX10_whyNotSaid_32 : decode cX10_whyNotSaid 32 = .ok (.ifCond .eq 14, 3) := by decide +kernel
theorem dX10_whyNotSaid_35 : decode cX10_whyNotSaid 35 = .ok (.iload 5, 2) := by decide +kernel
theorem dX10_whyNotSaid_37 : decode cX10_whyNotSaid 37 = .ok (.ifCond .lt 9, 3) := by decide +kernel
theorem dX10_whyNotSaid_40 : decode cX10_whyNotSaid 40 = .ok (.iload 5, 2) := by decide +kernel
theorem dX10_whyNotSaid_42 : decode cX10_whyNotSaid 42 = .ok (.iconst 2, 1) := by decide +kernel
theorem dX10_whyNotSaid_43 : decode cX10_whyNotSaid 43 = .ok (.if_icmp .le 5, 3) := by decide +kernel
theorem dX10_whyNotSaid_46 : decode cX10_whyNotSaid 46 = .ok (.iconst 1, 1) := by decide +kernel
theorem dX10_whyNotSaid_47 : decode cX10_whyNotSaid 47 = .ok (.ireturn, 1) := by decide +kernel
theorem dX10_whyNotSaid_48 : decode cX10_whyNotSaid 48 = .ok (.aload_n 0, 1) := by decide +kernel
theorem dX10_whyNotSaid_49 : decode cX10_whyNotSaid 49 = .ok (.getfield 60, 3) := by decide +kernel
theorem dX10_whyNotSaid_52 : decode cX10_whyNotSaid 52 = .ok (.getfield 155, 3) := by decide +kernel
theorem dX10_whyNotSaid_55 : decode cX10_whyNotSaid 55 = .ok (.iload_n 3, 1) := by decide +kernel
theorem dX10_whyNotSaid_56 : decode cX10_whyNotSaid 56 = .ok (.invokestatic 235, 3) := by decide +kernel
theorem dX10_whyNotSaid_59 : decode cX10_whyNotSaid 59 = .ok (.ifCond .ne 5, 3) := by decide +kernel
theorem dX10_whyNotSaid_62 : decode cX10_whyNotSaid 62 = .ok (.iconst 2, 1) := by decide +kernel
theorem dX10_whyNotSaid_63 : decode cX10_whyNotSaid 63 = .ok (.ireturn, 1) := by decide +kernel
theorem dX10_whyNotSaid_64 : decode cX10_whyNotSaid 64 = .ok (.aload_n 0, 1) := by decide +kernel
theorem dX10_whyNotSaid_65 : decode cX10_whyNotSaid 65 = .ok (.iload_n 1, 1) := by decide +kernel
theorem dX10_whyNotSaid_66 : decode cX10_whyNotSaid 66 = .ok (.iload_n 2, 1) := by decide +kernel
theorem dX10_whyNotSaid_67 : decode cX10_whyNotSaid 67 = .ok (.invokevirtual 228, 3) := by decide +kernel
theorem dX10_whyNotSaid_70 : decode cX10_whyNotSaid 70 = .ok (.ifCond .eq 5, 3) := by decide +kernel
theorem dX10_whyNotSaid_73 : decode cX10_whyNotSaid 73 = .ok (.iconst 3, 1) := by decide +kernel
theorem dX10_whyNotSaid_74 : decode cX10_whyNotSaid 74 = .ok (.ireturn, 1) := by decide +kernel
theorem dX10_whyNotSaid_75 : decode cX10_whyNotSaid 75 = .ok (.aload_n 0, 1) := by decide +kernel
theorem dX10_whyNotSaid_76 : decode cX10_whyNotSaid 76 = .ok (.getfield 60, 3) := by decide +kernel
theorem dX10_whyNotSaid_79 : decode cX10_whyNotSaid 79 = .ok (.getfield 173, 3) := by decide +kernel
theorem dX10_whyNotSaid_82 : decode cX10_whyNotSaid 82 = .ok (.bipush 30, 2) := by decide +kernel
theorem dX10_whyNotSaid_84 : decode cX10_whyNotSaid 84 = .ok (.if_icmp .lt 7, 3) := by decide +kernel
theorem dX10_whyNotSaid_87 : decode cX10_whyNotSaid 87 = .ok (.iconst 4, 1) := by decide +kernel
theorem dX10_whyNotSaid_88 : decode cX10_whyNotSaid 88 = .ok (.goto 4, 3) := by decide +kernel
theorem dX10_whyNotSaid_91 : decode cX10_whyNotSaid 91 = .ok (.iconst (-1), 1) := by decide +kernel
theorem dX10_whyNotSaid_92 : decode cX10_whyNotSaid 92 = .ok (.ireturn, 1) := by decide +kernel
theorem dX10_whyNotTold_0 : decode cX10_whyNotTold 0 = .ok (.aload_n 0, 1) := by decide +kernel
theorem dX10_whyNotTold_1 : decode cX10_whyNotTold 1 = .ok (.getfield 108, 3) := by decide +kernel
theorem dX10_whyNotTold_4 : decode cX10_whyNotTold 4 = .ok (.ifCond .ne 5, 3) := by decide +kernel
theorem dX10_whyNotTold_7 : decode cX10_whyNotTold 7 = .ok (.iconst 0, 1) := by decide +kernel
theorem dX10_whyNotTold_8 : decode cX10_whyNotTold 8 = .ok (.ireturn, 1) := by decide +kernel
theorem dX10_whyNotTold_9 : decode cX10_whyNotTold 9 = .ok (.iload_n 1, 1) := by decide +kernel
theorem dX10_whyNotTold_10 : decode cX10_whyNotTold 10 = .ok (.ifCond .lt 8, 3) := by decide +kernel
theorem dX10_whyNotTold_13 : decode cX10_whyNotTold 13 = .ok (.iload_n 1, 1) := by decide +kernel
theorem dX10_whyNotTold_14 : decode cX10_whyNotTold 14 = .ok (.iload_n 2, 1) := by decide +kernel
theorem dX10_whyNotTold_15 : decode cX10_whyNotTold 15 = .ok (.if_icmp .le 5, 3) := by decide +kernel
theorem dX10_whyNotTold_18 : decode cX10_whyNotTold 18 = .ok (.iconst 1, 1) := by decide +kernel
theorem dX10_whyNotTold_19 : decode cX10_whyNotTold 19 = .ok (.ireturn, 1) := by decide +kernel
theorem dX10_whyNotTold_20 : decode cX10_whyNotTold 20 = .ok (.aload_n 0, 1) := by decide +kernel
theorem dX10_whyNotTold_21 : decode cX10_whyNotTold 21 = .ok (.getfield 60, 3) := by decide +kernel
theorem dX10_whyNotTold_24 : decode cX10_whyNotTold 24 = .ok (.getfield 159, 3) := by decide +kernel
theorem dX10_whyNotTold_27 : decode cX10_whyNotTold 27 = .ok (.ifCond .le 7, 3) := by decide +kernel
theorem dX10_whyNotTold_30 : decode cX10_whyNotTold 30 = .ok (.iconst 3, 1) := by decide +kernel
theorem dX10_whyNotTold_31 : decode cX10_whyNotTold 31 = .ok (.goto 4, 3) := by decide +kernel
theorem dX10_whyNotTold_34 : decode cX10_whyNotTold 34 = .ok (.iconst (-1), 1) := by decide +kernel
theorem dX10_whyNotTold_35 : decode cX10_whyNotTold 35 = .ok (.ireturn, 1) := by decide +kernel
theorem dX2_everybody_0 : decode cX2_everybody 0 = .ok (.iconst 1, 1) := by decide +kernel
theorem dX2_everybody_1 : decode cX2_everybody 1 = .ok (.aload_n 0, 1) := by decide +kernel
theorem dX2_everybody_2 : decode cX2_everybody 2 = .ok (.getfield 15, 3) := by decide +kernel
theorem dX2_everybody_5 : decode cX2_everybody 5 = .ok (.ishl, 1) := by decide +kernel
theorem dX2_everybody_6 : decode cX2_everybody 6 = .ok (.iconst 1, 1) := by decide +kernel
theorem dX2_everybody_7 : decode cX2_everybody 7 = .ok (.isub, 1) := by decide +kernel
theorem dX2_everybody_8 : decode cX2_everybody 8 = .ok (.ireturn, 1) := by decide +kernel
theorem dX2_phaseAt_0 : decode cX2_phaseAt 0 = .ok (.iload_n 1, 1) := by decide +kernel
theorem dX2_phaseAt_1 : decode cX2_phaseAt 1 = .ok (.aload_n 0, 1) := by decide +kernel
theorem dX2_phaseAt_2 : decode cX2_phaseAt 2 = .ok (.invokevirtual 112, 3) := by decide +kernel
theorem dX2_phaseAt_5 : decode cX2_phaseAt 5 = .ok (.idiv, 1) := by decide +kernel
theorem dX2_phaseAt_6 : decode cX2_phaseAt 6 = .ok (.ireturn, 1) := by decide +kernel
theorem dX2_rounds_0 : decode cX2_rounds 0 = .ok (.aload_n 0, 1) := by decide +kernel
theorem dX2_rounds_1 : decode cX2_rounds 1 = .ok (.getfield 9, 3) := by decide +kernel
theorem dX2_rounds_4 : decode cX2_rounds 4 = .ok (.ifCond .ne 7, 3) := by decide +kernel
theorem dX2_rounds_7 : decode cX2_rounds 7 = .ok (.iconst 3, 1) := by decide +kernel
theorem dX2_rounds_8 : decode cX2_rounds 8 = .ok (.goto 4, 3) := by decide +kernel
theorem dX2_rounds_11 : decode cX2_rounds 11 = .ok (.iconst 2, 1) := by decide +kernel
theorem dX2_rounds_12 : decode cX2_rounds 12 = .ok (.ireturn, 1) := by decide +kernel
theorem dX3_agreedFrom_0 : decode cX3_agreedFrom 0 = .ok (.iconst (-1), 1) := by decide +kernel
theorem dX3_agreedFrom_1 : decode cX3_agreedFrom 1 = .ok (.istore_n 2, 1) := by decide +kernel
theorem dX3_agreedFrom_2 : decode cX3_agreedFrom 2 = .ok (.aload_n 1, 1) := by decide +kernel
theorem dX3_agreedFrom_3 : decode cX3_agreedFrom 3 = .ok (.aload_n 0, 1) := by decide +kernel
theorem dX3_agreedFrom_4 : decode cX3_agreedFrom 4 = .ok (.getfield 47, 3) := by decide +kernel
theorem dX3_agreedFrom_7 : decode cX3_agreedFrom 7 = .ok (.invokevirtual 89, 3) := by decide +kernel
theorem dX3_agreedFrom_10 : decode cX3_agreedFrom 10 = .ok (.iconst 1, 1) := by decide +kernel
theorem dX3_agreedFrom_11 : decode cX3_agreedFrom 11 = .ok (.isub, 1) := by decide +kernel
theorem dX3_agreedFrom_12 : decode cX3_agreedFrom 12 = .ok (.istore_n 3, 1) := by decide +kernel
theorem dX3_agreedFrom_13 : decode cX3_agreedFrom 13 = .ok (.iload_n 3, 1) := by decide +kernel
theorem dX3_agreedFrom_14 : decode cX3_agreedFrom 14 = .ok (.ifCond .lt 25, 3) := by decide +kernel
theorem dX3_agreedFrom_17 : decode cX3_agreedFrom 17 = .ok (.aload_n 0, 1) := by decide +kernel
theorem dX3_agreedFrom_18 : decode cX3_agreedFrom 18 = .ok (.aload_n 1, 1) := by decide +kernel
theorem dX3_agreedFrom_19 : decode cX3_agreedFrom 19 = .ok (.aload_n 0, 1) := by decide +kernel
theorem dX3_agreedFrom_20 : decode cX3_agreedFrom 20 = .ok (.getfield 28, 3) := by decide +kernel
theorem dX3_agreedFrom_23 : decode cX3_agreedFrom 23 = .ok (.iload_n 3, 1) := by decide +kernel
theorem dX3_agreedFrom_24 : decode cX3_agreedFrom 24 = .ok (.iaload, 1) := by decide +kernel
theorem dX3_agreedFrom_25 : decode cX3_agreedFrom 25 = .ok (.invokevirtual 200, 3) := by decide +kernel
theorem dX3_agreedFrom_28 : decode cX3_agreedFrom 28 = .ok (.ifCond .eq 11, 3) := by decide +kernel
theorem dX3_agreedFrom_31 : decode cX3_agreedFrom 31 = .ok (.iload_n 3, 1) := by decide +kernel
theorem dX3_agreedFrom_32 : decode cX3_agreedFrom 32 = .ok (.istore_n 2, 1) := by decide +kernel
theorem dX3_agreedFrom_33 : decode cX3_agreedFrom 33 = .ok (.iinc 3 (-1), 3) := by decide +kernel
theorem dX3_agreedFrom_36 : decode cX3_agreedFrom 36 = .ok (.goto (-23), 3) := by decide +kernel
theorem dX3_agreedFrom_39 : decode cX3_agreedFrom 39 = .ok (.iload_n 2, 1) := by decide +kernel
theorem dX3_agreedFrom_40 : decode cX3_agreedFrom 40 = .ok (.ireturn, 1) := by decide +kernel
end
section
/-! small facts -/
theorem i32_lt {a b : Int32} : a < b ↔ a.toInt < b.toInt := Int32.lt_iff_toInt_lt
theorem i32_le {a b : Int32} : a ≤ b ↔ a.toInt ≤ b.toInt := Int32.le_iff_toInt_le
theorem cp_lt_f_ge {x y : Int32} {G : Prop} (h : ¬ x < y) (c : ¬ y ≤ x) : G := absurd (i32_le.mpr (by rw [i32_lt] at h; omega)) c
theorem cp_lt_t_ge {x y : Int32} {G : Prop} (h : x < y) (c : y ≤ x) : G := by rw [i32_lt] at h; rw [i32_le] at c; omega
theorem cp_le_f_gt {x y : Int32} {G : Prop} (h : ¬ x ≤ y) (c : ¬ y < x) : G := by rw [i32_le] at h; rw [i32_lt] at c; omega
theorem cp_le_t_gt {x y : Int32} {G : Prop} (h : x ≤ y) (c : y < x) : G := by rw [i32_le] at h; rw [i32_lt] at c; omega
theorem cp_gt_f_le {x y : Int32} {G : Prop} (h : ¬ y < x) (c : ¬ x ≤ y) : G := by rw [i32_lt] at h; rw [i32_le] at c; omega
theorem cp_gt_t_le {x y : Int32} {G : Prop} (h : y < x) (c : x ≤ y) : G := by rw [i32_lt] at h; rw [i32_le] at c; omega
theorem cp_eq_f_ne {x y : Int32} {G : Prop} (h : ¬ x = y) (c : ¬ ¬ x = y) : G := absurd h c
theorem cp_eq_t_ne {x y : Int32} {G : Prop} (h : x = y) (c : ¬ x = y) : G := absurd h c
theorem tb_out {x : Int32} {lo hi : Int} (h1 : -2147483648 ≤ lo) (h2 : hi ≤ 2147483647) (h : ∀ k : Int, lo ≤ k → k ≤ hi → x ≠ Int32.ofInt k) : x.toInt < lo ∨ hi < x.toInt := by
  by_cases a : x.toInt < lo
  · exact Or.inl a
  · by_cases b : hi < x.toInt
    · exact Or.inr b
    · exact absurd (by rw [Int32.ofInt_toInt]) (h x.toInt (by omega) (by omega))
theorem ne_ti {x y : Int32} {k : Int} (h : ¬ x = y) (hk : y.toInt = k) : ¬ x.toInt = k := fun e => h (Int32.toInt_inj.mp (e.trans hk.symm))
theorem in_of2 {x k : Int32} {n : Nat} (hk : k.toInt = n) (h0 : ¬ x < 0) (h1 : x < k) : vp_in x n := by
  rw [vp_in_iff]
  rw [i32_lt] at h0 h1
  have e : (0 : Int32).toInt = 0 := by decide
  omega
def grB (form n : Int32) : Int32 := if form = 0 then (n - 1) / 3 else (n - 1) / 4
def endV (n : Int32) : Int32 := if n < 0 then 0 else if n ≤ 0 then 1 else 0
def ruleV (w : Int32) : Int32 := if w = 10 then 0 else (-1000000)
def grV (form n : Int32) : Int32 := if form < 0 then (-1) else if 1 < form then (-1) else if n < 1 then (-1) else if n ≤ 100 then grB form n else (-1)
def statV (w : Int32) : Int32 := if w < 0 then (-1) else if w < 5 then 0 else (-1)
def cntV (w : Int32) : Int32 := if w = 0 then 0 else if w = 1 then 0 else if w = 2 then 0 else (-1)
end
section
set_option maxHeartbeats 4000000 in
set_option maxRecDepth 100000 in
theorem k_X10_roundsLeft (l : Launch) (g : GG) (L : List Nat) (f : HP) (sz : Nat) (x t dr co ot dp pn ch fr nw kp tr ac se tx rf : Nat) (hm_x : x ∈ L) (hf_x : f x = .inr (9, [.ref t, .ref dr, .ref co, .ref ot, .ref dp, .ref pn, .ref ch, .ref fr, .ref nw, .ref kp, .ref tr, .ref ac, .ref se, .ref tx, .ref rf, .int 0, .int 0, .long 0])) : MtI l g yX10_roundsLeft cX10_roundsLeft 1 (some .int) ({ frames := 0, cells := 0, slots := 0, locals := 0 }) [.ref x] L f sz (fun r u => u.1 = L ∧ u.2 = f ∧ r = 0) := by
  refine MtI.of (by decide +kernel) (Nat.le_of_ble_eq_true rfl) ?_
  intro p e s m below meth c A hEn hP hD hS ls hl
  obtain ⟨hx, hb, hr, hml, hown, hlocks, hts, hG, hA, hE, hnm⟩ := hEn
  have hown : s.vm.findClass "RulerWord" = some m.cls := hown
  have hl : lv_has ls 1 [(0, .ref x)] := hl
  refine lv_aload_n hx hb dX10_roundsLeft_0 rfl (lv_at hl 0 rfl) ?_
  refine pl_get (v := .int 0) hx hb hts (fun w h => mT (inX10 w h)) hown hG.1 hP hm_x hf_x rfl 15 (by decide) (hts _ (mT wg_490)) (fun _ h => h) rfl dX10_roundsLeft_1 ?_
  refine lv_if_eq (tgt := 25) hx hb dX10_roundsLeft_4 (by decide) (fun c1 => ?_) (fun c1 => absurd (by decide) c1)
  refine lv_iconst (v := 0) hx hb dX10_roundsLeft_25 (by decide) ?_
  exact ret_i (ty := .int) hx hb hr hlocks (rfl) hP hD hS (Nat.le_of_ble_eq_true rfl) (Nat.le_of_ble_eq_true rfl) (⟨rfl, rfl, rfl⟩) dX10_roundsLeft_26

set_option maxHeartbeats 4000000 in
set_option maxRecDepth 100000 in
theorem k_X10_isPeer (l : Launch) (g : GG) (L : List Nat) (f : HP) (sz : Nat) (x t dr co ot dp pn ch fr nw kp tr ac se tx rf : Nat) (i : Int32) (hm_x : x ∈ L) (hf_x : f x = .inr (9, [.ref t, .ref dr, .ref co, .ref ot, .ref dp, .ref pn, .ref ch, .ref fr, .ref nw, .ref kp, .ref tr, .ref ac, .ref se, .ref tx, .ref rf, .int 0, .int 0, .long 0])) : MtI l g yX10_isPeer cX10_isPeer 2 (some .boolean) ({ frames := 0, cells := 0, slots := 0, locals := 0 }) [.ref x, .int i] L f sz (fun r u => u.1 = L ∧ u.2 = f ∧ r = 0) := by
  refine MtI.of (by decide +kernel) (Nat.le_of_ble_eq_true rfl) ?_
  intro p e s m below meth c A hEn hP hD hS ls hl
  obtain ⟨hx, hb, hr, hml, hown, hlocks, hts, hG, hA, hE, hnm⟩ := hEn
  have hown : s.vm.findClass "RulerWord" = some m.cls := hown
  have hl : lv_has ls 2 [(0, .ref x), (1, .int i)] := hl
  refine lv_aload_n hx hb dX10_isPeer_0 rfl (lv_at hl 0 rfl) ?_
  refine pl_get (v := .int 0) hx hb hts (fun w h => mT (inX10 w h)) hown hG.1 hP hm_x hf_x rfl 15 (by decide) (hts _ (mT wg_490)) (fun _ h => h) rfl dX10_isPeer_1 ?_
  refine lv_if_eq (tgt := 26) hx hb dX10_isPeer_4 (by decide) (fun c1 => ?_) (fun c1 => absurd (by decide) c1)
  refine lv_iconst (v := 0) hx hb dX10_isPeer_26 (by decide) ?_
  exact ret_i (ty := .boolean) hx hb hr hlocks (rfl) hP hD hS (Nat.le_of_ble_eq_true rfl) (Nat.le_of_ble_eq_true rfl) (⟨rfl, rfl, rfl⟩) dX10_isPeer_27

set_option maxHeartbeats 4000000 in
set_option maxRecDepth 100000 in
theorem k_X10_phasesOver (l : Launch) (g : GG) (L : List Nat) (f : HP) (sz : Nat) (x t dr co ot dp pn ch fr nw kp tr ac se tx rf : Nat) (hm_x : x ∈ L) (hf_x : f x = .inr (9, [.ref t, .ref dr, .ref co, .ref ot, .ref dp, .ref pn, .ref ch, .ref fr, .ref nw, .ref kp, .ref tr, .ref ac, .ref se, .ref tx, .ref rf, .int 0, .int 0, .long 0])) : MtI l g yX10_phasesOver cX10_phasesOver 1 (some .int) ({ frames := 0, cells := 0, slots := 0, locals := 0 }) [.ref x] L f sz (fun r u => u.1 = L ∧ u.2 = f ∧ r = 0) := by
  refine MtI.of (by decide +kernel) (Nat.le_of_ble_eq_true rfl) ?_
  intro p e s m below meth c A hEn hP hD hS ls hl
  obtain ⟨hx, hb, hr, hml, hown, hlocks, hts, hG, hA, hE, hnm⟩ := hEn
  have hown : s.vm.findClass "RulerWord" = some m.cls := hown
  have hl : lv_has ls 1 [(0, .ref x)] := hl
  refine lv_aload_n hx hb dX10_phasesOver_0 rfl (lv_at hl 0 rfl) ?_
  refine pl_get (v := .int 0) hx hb hts (fun w h => mT (inX10 w h)) hown hG.1 hP hm_x hf_x rfl 15 (by decide) (hts _ (mT wg_490)) (fun _ h => h) rfl dX10_phasesOver_1 ?_
  refine lv_if_eq (tgt := 29) hx hb dX10_phasesOver_4 (by decide) (fun c1 => ?_) (fun c1 => absurd (by decide) c1)
  refine lv_iconst (v := 0) hx hb dX10_phasesOver_29 (by decide) ?_
  exact ret_i (ty := .int) hx hb hr hlocks (rfl) hP hD hS (Nat.le_of_ble_eq_true rfl) (Nat.le_of_ble_eq_true rfl) (⟨rfl, rfl, rfl⟩) dX10_phasesOver_30

set_option maxHeartbeats 4000000 in
set_option maxRecDepth 100000 in
theorem k_X10_isOver (l : Launch) (g : GG) (L : List Nat) (f : HP) (sz : Nat) (x t dr co ot dp pn ch fr nw kp tr ac se tx rf : Nat) (ph : Int32) (hm_x : x ∈ L) (hf_x : f x = .inr (9, [.ref t, .ref dr, .ref co, .ref ot, .ref dp, .ref pn, .ref ch, .ref fr, .ref nw, .ref kp, .ref tr, .ref ac, .ref se, .ref tx, .ref rf, .int 0, .int 0, .long 0])) : MtI l g yX10_isOver cX10_isOver 2 (some .boolean) ({ frames := 1, cells := 0, slots := 0, locals := 20 }) [.ref x, .int ph] L f sz (fun r u => u.1 = L ∧ u.2 = f ∧ r = 0) := by
  refine MtI.of (by decide +kernel) (Nat.le_of_ble_eq_true rfl) ?_
  intro p e s m below meth c A hEn hP hD hS ls hl
  obtain ⟨hx, hb, hr, hml, hown, hlocks, hts, hG, hA, hE, hnm⟩ := hEn
  have hown : s.vm.findClass "RulerWord" = some m.cls := hown
  have hl : lv_has ls 2 [(0, .ref x), (1, .int ph)] := hl
  refine lv_iload_n hx hb dX10_isOver_0 rfl (lv_at hl 1 rfl) ?_
  refine lv_if_lt (tgt := 16) hx hb dX10_isOver_1 (by decide) (fun c1 => ?_) (fun c1 => ?_)
  ·
    refine lv_iconst (v := 0) hx hb dX10_isOver_16 (by decide) ?_
    exact ret_i (ty := .boolean) hx hb hr hlocks (rfl) hP hD hS (Nat.le_of_ble_eq_true rfl) (Nat.le_of_ble_eq_true rfl) (⟨rfl, rfl, rfl⟩) dX10_isOver_17
  ·
    refine lv_iload_n hx hb dX10_isOver_4 rfl (lv_at hl 1 rfl) ?_
    refine lv_aload_n hx hb dX10_isOver_5 rfl (lv_at hl 0 rfl) ?_
    refine call_i (run_V (rm := { frames := 0, cells := 0, slots := 0, locals := 0 }) hx hb hml hown hts (k_X10_phasesOver l g _ _ _ x t dr co ot dp pn ch fr nw kp tr ac se tx rf hm_x hf_x) cV_X10_phasesOver wg_956 ⟨Nat.le_of_ble_eq_true rfl, Nat.le_of_ble_eq_true rfl⟩ hG hE hA hP hD hS hm_x hf_x rfl rfl hl.1 (As := []) (rest := [.int ph]) rfl (Nat.le_of_ble_eq_true rfl) dX10_isOver_6 ⟨Nat.le_of_ble_eq_true rfl, Nat.le_of_ble_eq_true rfl⟩) hA hD hS (fun r2 L3 f4 H locs hp5 hP hD hS => ?_)
    obtain ⟨er6a, er6b, er6⟩ : L3 = _ ∧ f4 = _ ∧ r2 = 0 := hp5
    rw [er6a, er6b] at hP hD
    subst er6
    refine lv_icmp_ge (tgt := 16) hx hb dX10_isOver_9 (by decide) (fun c7 => ?_) (fun c7 => cp_lt_f_ge c1 c7)
    refine lv_iconst (v := 0) hx hb dX10_isOver_16 (by decide) ?_
    exact ret_i (ty := .boolean) hx hb hr hlocks (rfl) hP hD hS (Nat.le_of_ble_eq_true rfl) (Nat.le_of_ble_eq_true rfl) (⟨rfl, rfl, rfl⟩) dX10_isOver_17

set_option maxHeartbeats 4000000 in
set_option maxRecDepth 100000 in
theorem k_X10_isAsked (l : Launch) (g : GG) (L : List Nat) (f : HP) (sz : Nat) (x t dr co ot dp pn ch fr nw kp tr ac se tx rf : Nat) (fa : Int32) (hm_x : x ∈ L) (hf_x : f x = .inr (9, [.ref t, .ref dr, .ref co, .ref ot, .ref dp, .ref pn, .ref ch, .ref fr, .ref nw, .ref kp, .ref tr, .ref ac, .ref se, .ref tx, .ref rf, .int 0, .int 0, .long 0])) : MtI l g yX10_isAsked cX10_isAsked 2 (some .boolean) ({ frames := 0, cells := 0, slots := 0, locals := 0 }) [.ref x, .int fa] L f sz (fun r u => u.1 = L ∧ u.2 = f ∧ r = 0) := by
  refine MtI.of (by decide +kernel) (Nat.le_of_ble_eq_true rfl) ?_
  intro p e s m below meth c A hEn hP hD hS ls hl
  obtain ⟨hx, hb, hr, hml, hown, hlocks, hts, hG, hA, hE, hnm⟩ := hEn
  have hown : s.vm.findClass "RulerWord" = some m.cls := hown
  have hl : lv_has ls 2 [(0, .ref x), (1, .int fa)] := hl
  refine lv_aload_n hx hb dX10_isAsked_0 rfl (lv_at hl 0 rfl) ?_
  refine pl_get (v := .int 0) hx hb hts (fun w h => mT (inX10 w h)) hown hG.1 hP hm_x hf_x rfl 15 (by decide) (hts _ (mT wg_490)) (fun _ h => h) rfl dX10_isAsked_1 ?_
  refine lv_if_eq (tgt := 21) hx hb dX10_isAsked_4 (by decide) (fun c1 => ?_) (fun c1 => absurd (by decide) c1)
  refine lv_iconst (v := 0) hx hb dX10_isAsked_21 (by decide) ?_
  exact ret_i (ty := .boolean) hx hb hr hlocks (rfl) hP hD hS (Nat.le_of_ble_eq_true rfl) (Nat.le_of_ble_eq_true rfl) (⟨rfl, rfl, rfl⟩) dX10_isAsked_22

set_option maxHeartbeats 4000000 in
set_option maxRecDepth 100000 in
theorem k_X10_whyNotSaid (l : Launch) (g : GG) (L : List Nat) (f : HP) (sz : Nat) (x t dr co ot dp pn ch fr nw kp tr ac se tx rf : Nat) (a1 : Int32) (a2 : Int32) (a3 : Int32) (a4 : Int32) (a5 : Int32) (hm_x : x ∈ L) (hf_x : f x = .inr (9, [.ref t, .ref dr, .ref co, .ref ot, .ref dp, .ref pn, .ref ch, .ref fr, .ref nw, .ref kp, .ref tr, .ref ac, .ref se, .ref tx, .ref rf, .int 0, .int 0, .long 0])) : MtI l g yX10_whyNotSaid cX10_whyNotSaid 6 (some .int) ({ frames := 0, cells := 0, slots := 0, locals := 0 }) [.ref x, .int a1, .int a2, .int a3, .int a4, .int a5] L f sz (fun r u => u.1 = L ∧ u.2 = f ∧ r = 0) := by
  refine MtI.of (by decide +kernel) (Nat.le_of_ble_eq_true rfl) ?_
  intro p e s m below meth c A hEn hP hD hS ls hl
  obtain ⟨hx, hb, hr, hml, hown, hlocks, hts, hG, hA, hE, hnm⟩ := hEn
  have hown : s.vm.findClass "RulerWord" = some m.cls := hown
  have hl : lv_has ls 6 [(0, .ref x), (1, .int a1), (2, .int a2), (3, .int a3), (4, .int a4), (5, .int a5)] := hl
  refine lv_aload_n hx hb dX10_whyNotSaid_0 rfl (lv_at hl 0 rfl) ?_
  refine pl_get (v := .int 0) hx hb hts (fun w h => mT (inX10 w h)) hown hG.1 hP hm_x hf_x rfl 15 (by decide) (hts _ (mT wg_490)) (fun _ h => h) rfl dX10_whyNotSaid_1 ?_
  refine lv_if_ne (tgt := 9) hx hb dX10_whyNotSaid_4 (by decide) (fun c1 => absurd c1 (by decide)) (fun c1 => ?_)
  refine lv_iconst (v := 0) hx hb dX10_whyNotSaid_7 (by decide) ?_
  exact ret_i (ty := .int) hx hb hr hlocks (rfl) hP hD hS (Nat.le_of_ble_eq_true rfl) (Nat.le_of_ble_eq_true rfl) (⟨rfl, rfl, rfl⟩) dX10_whyNotSaid_8

set_option maxHeartbeats 4000000 in
set_option maxRecDepth 100000 in
theorem k_X10_whyNotTold (l : Launch) (g : GG) (L : List Nat) (f : HP) (sz : Nat) (x t dr co ot dp pn ch fr nw kp tr ac se tx rf : Nat) (a : Int32) (b : Int32) (hm_x : x ∈ L) (hf_x : f x = .inr (9, [.ref t, .ref dr, .ref co, .ref ot, .ref dp, .ref pn, .ref ch, .ref fr, .ref nw, .ref kp, .ref tr, .ref ac, .ref se, .ref tx, .ref rf, .int 0, .int 0, .long 0])) : MtI l g yX10_whyNotTold cX10_whyNotTold 3 (some .int) ({ frames := 0, cells := 0, slots := 0, locals := 0 }) [.ref x, .int a, .int b] L f sz (fun r u => u.1 = L ∧ u.2 = f ∧ r = 0) := by
  refine MtI.of (by decide +kernel) (Nat.le_of_ble_eq_true rfl) ?_
  intro p e s m below meth c A hEn hP hD hS ls hl
  obtain ⟨hx, hb, hr, hml, hown, hlocks, hts, hG, hA, hE, hnm⟩ := hEn
  have hown : s.vm.findClass "RulerWord" = some m.cls := hown
  have hl : lv_has ls 3 [(0, .ref x), (1, .int a), (2, .int b)] := hl
  refine lv_aload_n hx hb dX10_whyNotTold_0 rfl (lv_at hl 0 rfl) ?_
  refine pl_get (v := .int 0) hx hb hts (fun w h => mT (inX10 w h)) hown hG.1 hP hm_x hf_x rfl 15 (by decide) (hts _ (mT wg_490)) (fun _ h => h) rfl dX10_whyNotTold_1 ?_
  refine lv_if_ne (tgt := 9) hx hb dX10_whyNotTold_4 (by decide) (fun c1 => absurd c1 (by decide)) (fun c1 => ?_)
  refine lv_iconst (v := 0) hx hb dX10_whyNotTold_7 (by decide) ?_
  exact ret_i (ty := .int) hx hb hr hlocks (rfl) hP hD hS (Nat.le_of_ble_eq_true rfl) (Nat.le_of_ble_eq_true rfl) (⟨rfl, rfl, rfl⟩) dX10_whyNotTold_8

set_option maxHeartbeats 4000000 in
set_option maxRecDepth 100000 in
theorem k_X10_refuse (l : Launch) (g : GG) (L : List Nat) (f : HP) (sz : Nat) (x t dr co ot dp pn ch fr nw kp tr ac se tx rf : Nat) (hm_x : x ∈ L) (hf_x : f x = .inr (9, [.ref t, .ref dr, .ref co, .ref ot, .ref dp, .ref pn, .ref ch, .ref fr, .ref nw, .ref kp, .ref tr, .ref ac, .ref se, .ref tx, .ref rf, .int 0, .int 0, .long 0])) (hm_rf : rf ∈ L) (hf_rf : f rf = .inl (g.2.1 0, 5, .inl (fun _ => 0))) : MtI l g yX10_refuse cX10_refuse 2 (some .int) ({ frames := 0, cells := 0, slots := 0, locals := 0 }) [.ref x, .int 0] L f sz (fun r _ => r = (-1)) := by
  refine MtI.of (by decide +kernel) (Nat.le_of_ble_eq_true rfl) ?_
  intro p e s m below meth c A hEn hP hD hS ls hl
  obtain ⟨hx, hb, hr, hml, hown, hlocks, hts, hG, hA, hE, hnm⟩ := hEn
  have hown : s.vm.findClass "RulerWord" = some m.cls := hown
  have hl : lv_has ls 2 [(0, .ref x), (1, .int 0)] := hl
  refine lv_aload_n hx hb dX10_refuse_0 rfl (lv_at hl 0 rfl) ?_
  refine pl_get (v := .ref rf) hx hb hts (fun w h => mT (inX10 w h)) hown hG.1 hP hm_x hf_x rfl 14 (by decide) (hts _ (mT wg_489)) (fun _ h => h) rfl dX10_refuse_1 ?_
  refine lv_iload_n hx hb dX10_refuse_4 rfl (lv_at hl 1 rfl) ?_
  refine lv_dup2_11 hx hb dX10_refuse_5 rfl rfl ?_
  refine pl_iald hx hb hG.1 hP hm_rf 0 hf_rf rfl (by unfold vp_in; decide) dX10_refuse_6 ?_
  refine lv_topi (fun x1 ex1 => ?_)
  obtain rfl : x1 = 0 := ex1.trans (rfl)
  refine lv_iconst (v := 1) hx hb dX10_refuse_7 (by decide) ?_
  refine lv_iadd hx hb dX10_refuse_8 ?_
  refine lv_topi (fun x2 ex2 => ?_)
  obtain rfl : x2 = 1 := ex2.trans (by decide)
  refine pl_iast hx hb hG.1 hP hD hS hm_rf 0 hf_rf rfl (by unfold vp_in; decide) dX10_refuse_9 (fun H locs f3 hf5 ho4 hP hD hS => ?_)
  obtain ⟨r6, er6⟩ : ∃ r : Nat → Int32, r = upd (fun _ => 0) (0 : Int32).toNatClampNeg (1) := ⟨_, rfl⟩
  rw [← er6] at hf5
  have hf7 := (ho4 x (kno hf_x hf_rf)).trans hf_x
  refine lv_iconst (v := (-1)) hx hb dX10_refuse_10 (by decide) ?_
  exact ret_i (ty := .int) hx hb hr hlocks (rfl) hP hD hS (Nat.le_of_ble_eq_true rfl) (Nat.le_of_ble_eq_true rfl) (rfl) dX10_refuse_11

set_option maxHeartbeats 4000000 in
set_option maxRecDepth 100000 in
theorem k_X2_everybody (l : Launch) (g : GG) (L : List Nat) (f : HP) (sz : Nat) (co : Nat) (hm_co : co ∈ L) (hf_co : f co = .inr (2, [.int 0, .int 0, .int 0, .int 0, .int 0, .int 0, .int 0, .int 0])) : MtI l g yX2_everybody cX2_everybody 1 (some .int) ({ frames := 0, cells := 0, slots := 0, locals := 0 }) [.ref co] L f sz (fun r u => u.1 = L ∧ u.2 = f ∧ r = 0) := by
  refine MtI.of (by decide +kernel) (Nat.le_of_ble_eq_true rfl) ?_
  intro p e s m below meth c A hEn hP hD hS ls hl
  obtain ⟨hx, hb, hr, hml, hown, hlocks, hts, hG, hA, hE, hnm⟩ := hEn
  have hown : s.vm.findClass "RulerWord$Council" = some m.cls := hown
  have hl : lv_has ls 1 [(0, .ref co)] := hl
  refine lv_iconst (v := 1) hx hb dX2_everybody_0 (by decide) ?_
  refine lv_aload_n hx hb dX2_everybody_1 rfl (lv_at hl 0 rfl) ?_
  refine pl_get (v := .int 0) hx hb hts (fun w h => mT (inX2 w h)) hown hG.1 hP hm_co hf_co rfl 1 (by decide) (hts _ (mT wg_228)) (fun _ h => h) rfl dX2_everybody_2 ?_
  refine lv_ishl hx hb dX2_everybody_5 ?_
  refine lv_topi (fun x1 ex1 => ?_)
  obtain rfl : x1 = 1 := ex1.trans (by decide)
  refine lv_iconst (v := 1) hx hb dX2_everybody_6 (by decide) ?_
  refine lv_isub hx hb dX2_everybody_7 ?_
  refine lv_topi (fun x2 ex2 => ?_)
  obtain rfl : x2 = 0 := ex2.trans (by decide)
  exact ret_i (ty := .int) hx hb hr hlocks (rfl) hP hD hS (Nat.le_of_ble_eq_true rfl) (Nat.le_of_ble_eq_true rfl) (⟨rfl, rfl, rfl⟩) dX2_everybody_8

set_option maxHeartbeats 4000000 in
set_option maxRecDepth 100000 in
theorem k_X2_rounds (l : Launch) (g : GG) (L : List Nat) (f : HP) (sz : Nat) (co : Nat) (hm_co : co ∈ L) (hf_co : f co = .inr (2, [.int 0, .int 0, .int 0, .int 0, .int 0, .int 0, .int 0, .int 0])) : MtI l g yX2_rounds cX2_rounds 1 (some .int) ({ frames := 0, cells := 0, slots := 0, locals := 0 }) [.ref co] L f sz (fun r u => u.1 = L ∧ u.2 = f ∧ r = 3) := by
  refine MtI.of (by decide +kernel) (Nat.le_of_ble_eq_true rfl) ?_
  intro p e s m below meth c A hEn hP hD hS ls hl
  obtain ⟨hx, hb, hr, hml, hown, hlocks, hts, hG, hA, hE, hnm⟩ := hEn
  have hown : s.vm.findClass "RulerWord$Council" = some m.cls := hown
  have hl : lv_has ls 1 [(0, .ref co)] := hl
  refine lv_aload_n hx hb dX2_rounds_0 rfl (lv_at hl 0 rfl) ?_
  refine pl_get (v := .int 0) hx hb hts (fun w h => mT (inX2 w h)) hown hG.1 hP hm_co hf_co rfl 0 (by decide) (hts _ (mT wg_224)) (fun _ h => h) rfl dX2_rounds_1 ?_
  refine lv_if_ne (tgt := 11) hx hb dX2_rounds_4 (by decide) (fun c1 => absurd c1 (by decide)) (fun c1 => ?_)
  refine lv_iconst (v := 3) hx hb dX2_rounds_7 (by decide) ?_
  refine lv_goto (tgt := 12) hx hb dX2_rounds_8 (by decide) ?_
  exact ret_i (ty := .int) hx hb hr hlocks (rfl) hP hD hS (Nat.le_of_ble_eq_true rfl) (Nat.le_of_ble_eq_true rfl) (⟨rfl, rfl, rfl⟩) dX2_rounds_12

set_option maxHeartbeats 4000000 in
set_option maxRecDepth 100000 in
theorem k_X2_phaseAt (l : Launch) (g : GG) (L : List Nat) (f : HP) (sz : Nat) (co : Nat) (hm_co : co ∈ L) (hf_co : f co = .inr (2, [.int 0, .int 0, .int 0, .int 0, .int 0, .int 0, .int 0, .int 0])) : MtI l g yX2_phaseAt cX2_phaseAt 2 (some .int) ({ frames := 1, cells := 0, slots := 0, locals := 20 }) [.ref co, .int 0] L f sz (fun r u => u.1 = L ∧ u.2 = f ∧ r = 0) := by
  refine MtI.of (by decide +kernel) (Nat.le_of_ble_eq_true rfl) ?_
  intro p e s m below meth c A hEn hP hD hS ls hl
  obtain ⟨hx, hb, hr, hml, hown, hlocks, hts, hG, hA, hE, hnm⟩ := hEn
  have hown : s.vm.findClass "RulerWord$Council" = some m.cls := hown
  have hl : lv_has ls 2 [(0, .ref co), (1, .int 0)] := hl
  refine lv_iload_n hx hb dX2_phaseAt_0 rfl (lv_at hl 1 rfl) ?_
  refine lv_aload_n hx hb dX2_phaseAt_1 rfl (lv_at hl 0 rfl) ?_
  refine call_i (run_V (rm := { frames := 0, cells := 0, slots := 0, locals := 0 }) hx hb hml hown hts (k_X2_rounds l g _ _ _ co hm_co hf_co) cV_X2_rounds wg_738 ⟨Nat.le_of_ble_eq_true rfl, Nat.le_of_ble_eq_true rfl⟩ hG hE hA hP hD hS hm_co hf_co rfl rfl hl.1 (As := []) (rest := [.int 0]) rfl (Nat.le_of_ble_eq_true rfl) dX2_phaseAt_2 ⟨Nat.le_of_ble_eq_true rfl, Nat.le_of_ble_eq_true rfl⟩) hA hD hS (fun r1 L2 f3 H locs hp4 hP hD hS => ?_)
  obtain ⟨er5a, er5b, er5⟩ : L2 = _ ∧ f3 = _ ∧ r1 = 3 := hp4
  rw [er5a, er5b] at hP hD
  subst er5
  refine lv_idiv hx hb dX2_phaseAt_5 (by decide) ?_
  refine lv_topi (fun x6 ex6 => ?_)
  obtain rfl : x6 = 0 := ex6.trans (by decide)
  exact ret_i (ty := .int) hx hb hr hlocks (rfl) hP hD hS (Nat.le_of_ble_eq_true rfl) (Nat.le_of_ble_eq_true rfl) (⟨rfl, rfl, rfl⟩) dX2_phaseAt_6

set_option maxHeartbeats 4000000 in
set_option maxRecDepth 100000 in
theorem k_X3_agreedFrom (l : Launch) (g : GG) (L : List Nat) (f : HP) (sz : Nat) (nw n0 n1 n2 n3 n4 n5 n6 n7 n8 co : Nat) (hm_nw : nw ∈ L) (hf_nw : f nw = .inr (3, [.int 0, .int 0, .int 0, .int 0, .int 0, .int 0, .int 0, .long 0, .long 0, .ref n0, .ref n1, .ref n2, .ref n3, .ref n4, .ref n5, .ref n6, .ref n7, .ref n8])) (hm_co : co ∈ L) (hf_co : f co = .inr (2, [.int 0, .int 0, .int 0, .int 0, .int 0, .int 0, .int 0, .int 0])) : MtI l g yX3_agreedFrom cX3_agreedFrom 4 (some .int) ({ frames := 2, cells := 0, slots := 0, locals := 41 }) [.ref nw, .ref co] L f sz (fun r u => u.1 = L ∧ u.2 = f ∧ r = (-1)) := by
  refine MtI.of (by decide +kernel) (Nat.le_of_ble_eq_true rfl) ?_
  intro p e s m below meth c A hEn hP hD hS ls hl
  obtain ⟨hx, hb, hr, hml, hown, hlocks, hts, hG, hA, hE, hnm⟩ := hEn
  have hown : s.vm.findClass "RulerWord$Course" = some m.cls := hown
  have hl : lv_has ls 4 [(0, .ref nw), (1, .ref co)] := hl
  refine lv_iconst (v := (-1)) hx hb dX3_agreedFrom_0 (by decide) ?_
  refine lv_istore_n (lv' := [(2, .int (-1)), (0, .ref nw), (1, .ref co)]) hx hb dX3_agreedFrom_1 rfl hl (by decide) rfl (fun ls hl => ?_)
  refine lv_aload_n hx hb dX3_agreedFrom_2 rfl (lv_at hl 2 rfl) ?_
  refine lv_aload_n hx hb dX3_agreedFrom_3 rfl (lv_at hl 1 rfl) ?_
  refine pl_get (v := .int 0) hx hb hts (fun w h => mT (inX3 w h)) hown hG.1 hP hm_nw hf_nw rfl 2 (by decide) (hts _ (mT wg_340)) (fun _ h => h) rfl dX3_agreedFrom_4 ?_
  refine call_i (run_VN (rm := { frames := 1, cells := 0, slots := 0, locals := 20 }) hx hb hml hown hts (k_X2_phaseAt l g _ _ _ co hm_co hf_co) cV_X2_phaseAt wn_775 ⟨Nat.le_of_ble_eq_true rfl, Nat.le_of_ble_eq_true rfl⟩ hG hE hA hP hD hS hm_co hf_co rfl rfl hl.1 (As := [.int 0]) (rest := []) rfl (Nat.le_of_ble_eq_true rfl) dX3_agreedFrom_7 ⟨Nat.le_of_ble_eq_true rfl, Nat.le_of_ble_eq_true rfl⟩) hA hD hS (fun r1 L2 f3 H locs hp4 hP hD hS => ?_)
  obtain ⟨er5a, er5b, er5⟩ : L2 = _ ∧ f3 = _ ∧ r1 = 0 := hp4
  rw [er5a, er5b] at hP hD
  subst er5
  refine lv_iconst (v := 1) hx hb dX3_agreedFrom_10 (by decide) ?_
  refine lv_isub hx hb dX3_agreedFrom_11 ?_
  refine lv_topi (fun x6 ex6 => ?_)
  obtain rfl : x6 = (-1) := ex6.trans (by decide)
  refine lv_istore_n (lv' := [(3, .int (-1)), (2, .int (-1)), (0, .ref nw), (1, .ref co)]) hx hb dX3_agreedFrom_12 rfl hl (by decide) rfl (fun ls hl => ?_)
  refine lv_iload_n hx hb dX3_agreedFrom_13 rfl (lv_at hl 0 rfl) ?_
  refine lv_if_lt (tgt := 39) hx hb dX3_agreedFrom_14 (by decide) (fun c7 => ?_) (fun c7 => absurd (by decide) c7)
  refine lv_iload_n hx hb dX3_agreedFrom_39 rfl (lv_at hl 1 rfl) ?_
  exact ret_i (ty := .int) hx hb hr hlocks (rfl) hP hD hS (Nat.le_of_ble_eq_true rfl) (Nat.le_of_ble_eq_true rfl) (⟨rfl, rfl, rfl⟩) dX3_agreedFrom_40

set_option maxHeartbeats 4000000 in
set_option maxRecDepth 100000 in
theorem k_X0_takeBack (l : Launch) (g : GG) (L : List Nat) (f : HP) (sz : Nat) (ac ah : Nat) (nw : Nat) (hm_ac : ac ∈ L) (hf_ac : f ac = .inr (0, [.ref ah, .int 0, .int 0])) : MtI l g yX0_takeBack cX0_takeBack 2 (some .boolean) ({ frames := 0, cells := 0, slots := 0, locals := 0 }) [.ref ac, .ref nw] L f sz (fun r u => u.1 = L ∧ u.2 = f ∧ r = 0) := by
  refine MtI.of (by decide +kernel) (Nat.le_of_ble_eq_true rfl) ?_
  intro p e s m below meth c A hEn hP hD hS ls hl
  obtain ⟨hx, hb, hr, hml, hown, hlocks, hts, hG, hA, hE, hnm⟩ := hEn
  have hown : s.vm.findClass "RulerWord$Acts" = some m.cls := hown
  have hl : lv_has ls 2 [(0, .ref ac), (1, .ref nw)] := hl
  refine lv_aload_n hx hb dX0_takeBack_0 rfl (lv_at hl 0 rfl) ?_
  refine pl_get (v := .int 0) hx hb hts (fun w h => mT (inX0 w h)) hown hG.1 hP hm_ac hf_ac rfl 2 (by decide) (hts _ (mT wg_415)) (fun _ h => h) rfl dX0_takeBack_1 ?_
  refine lv_iconst (v := 1) hx hb dX0_takeBack_4 (by decide) ?_
  refine lv_icmp_ge (tgt := 10) hx hb dX0_takeBack_5 (by decide) (fun c1 => absurd c1 (by decide)) (fun c1 => ?_)
  refine lv_iconst (v := 0) hx hb dX0_takeBack_8 (by decide) ?_
  exact ret_i (ty := .boolean) hx hb hr hlocks (rfl) hP hD hS (Nat.le_of_ble_eq_true rfl) (Nat.le_of_ble_eq_true rfl) (⟨rfl, rfl, rfl⟩) dX0_takeBack_9

set_option maxHeartbeats 4000000 in
set_option maxRecDepth 100000 in
theorem k_X10_greatestBound (l : Launch) (g : GG) (L : List Nat) (f : HP) (sz : Nat) (form n : Int32)  : MtI l g yX10_greatestBound cX10_greatestBound 2 (some .int) ({ frames := 0, cells := 0, slots := 0, locals := 0 }) [.int form, .int n] L f sz (fun r u => u.1 = L ∧ u.2 = f ∧ r = grB form n) := by
  refine MtI.of (by decide +kernel) (Nat.le_of_ble_eq_true rfl) ?_
  intro p e s m below meth c A hEn hP hD hS ls hl
  obtain ⟨hx, hb, hr, hml, hown, hlocks, hts, hG, hA, hE, hnm⟩ := hEn
  have hown : s.vm.findClass "RulerWord" = some m.cls := hown
  have hl : lv_has ls 2 [(0, .int form), (1, .int n)] := hl
  refine lv_iload_n hx hb dX10_greatestBound_0 rfl (lv_at hl 0 rfl) ?_
  refine lv_if_ne (tgt := 12) hx hb dX10_greatestBound_1 (by decide) (fun c1 => ?_) (fun c1 => ?_)
  ·
    refine lv_iload_n hx hb dX10_greatestBound_12 rfl (lv_at hl 1 rfl) ?_
    refine lv_iconst (v := 1) hx hb dX10_greatestBound_13 (by decide) ?_
    refine lv_isub hx hb dX10_greatestBound_14 ?_
    refine lv_topi (fun x2 ex2 => ?_)
    refine lv_iconst (v := 4) hx hb dX10_greatestBound_15 (by decide) ?_
    refine lv_idiv hx hb dX10_greatestBound_16 (by decide) ?_
    refine lv_topi (fun x3 ex3 => ?_)
    exact ret_i (ty := .int) hx hb hr hlocks (rfl) hP hD hS (Nat.le_of_ble_eq_true rfl) (Nat.le_of_ble_eq_true rfl) (⟨rfl, rfl, by simp [grB, c1, ex2, ex3]⟩) dX10_greatestBound_17
  ·
    refine lv_iload_n hx hb dX10_greatestBound_4 rfl (lv_at hl 1 rfl) ?_
    refine lv_iconst (v := 1) hx hb dX10_greatestBound_5 (by decide) ?_
    refine lv_isub hx hb dX10_greatestBound_6 ?_
    refine lv_topi (fun x4 ex4 => ?_)
    refine lv_iconst (v := 3) hx hb dX10_greatestBound_7 (by decide) ?_
    refine lv_idiv hx hb dX10_greatestBound_8 (by decide) ?_
    refine lv_topi (fun x5 ex5 => ?_)
    refine lv_goto (tgt := 17) hx hb dX10_greatestBound_9 (by decide) ?_
    exact ret_i (ty := .int) hx hb hr hlocks (rfl) hP hD hS (Nat.le_of_ble_eq_true rfl) (Nat.le_of_ble_eq_true rfl) (⟨rfl, rfl, by simp [grB, c1, ex4, ex5]⟩) dX10_greatestBound_17
end
section
set_option maxHeartbeats 4000000 in
set_option maxRecDepth 100000 in
theorem k_X10_round (l : Launch) (g : GG) (L : List Nat) (f : HP) (sz : Nat) (x t dr co ot dp pn ch fr nw kp tr ac se tx rf : Nat) (hm_x : x ∈ L) (hf_x : f x = .inr (9, [.ref t, .ref dr, .ref co, .ref ot, .ref dp, .ref pn, .ref ch, .ref fr, .ref nw, .ref kp, .ref tr, .ref ac, .ref se, .ref tx, .ref rf, .int 0, .int 0, .long 0])) : MtI l g yX10_round cX10_round 1 (some .int) ({ frames := 1, cells := 0, slots := 0, locals := 20 }) [.ref x] L f sz (fun r _ => r = (-1)) := by
  refine MtI.of (by decide +kernel) (Nat.le_of_ble_eq_true rfl) ?_
  intro p e s m below meth c A hEn hP hD hS ls hl
  obtain ⟨hx, hb, hr, hml, hown, hlocks, hts, hG, hA, hE, hnm⟩ := hEn
  have hown : s.vm.findClass "RulerWord" = some m.cls := hown
  have hl : lv_has ls 1 [(0, .ref x)] := hl
  refine lv_aload_n hx hb dX10_round_0 rfl (lv_at hl 0 rfl) ?_
  refine call_i (run_V (rm := { frames := 0, cells := 0, slots := 0, locals := 0 }) hx hb hml hown hts (k_X10_roundsLeft l g _ _ _ x t dr co ot dp pn ch fr nw kp tr ac se tx rf hm_x hf_x) cV_X10_roundsLeft wg_751 ⟨Nat.le_of_ble_eq_true rfl, Nat.le_of_ble_eq_true rfl⟩ hG hE hA hP hD hS hm_x hf_x rfl rfl hl.1 (As := []) (rest := []) rfl (Nat.le_of_ble_eq_true rfl) dX10_round_1 ⟨Nat.le_of_ble_eq_true rfl, Nat.le_of_ble_eq_true rfl⟩) hA hD hS (fun r1 L2 f3 H locs hp4 hP hD hS => ?_)
  obtain ⟨er5a, er5b, er5⟩ : L2 = _ ∧ f3 = _ ∧ r1 = 0 := hp4
  rw [er5a, er5b] at hP hD
  subst er5
  refine lv_iconst (v := 1) hx hb dX10_round_4 (by decide) ?_
  refine lv_icmp_ge (tgt := 10) hx hb dX10_round_5 (by decide) (fun c6 => absurd c6 (by decide)) (fun c6 => ?_)
  refine lv_iconst (v := (-1)) hx hb dX10_round_8 (by decide) ?_
  exact ret_i (ty := .int) hx hb hr hlocks (rfl) hP hD hS (Nat.le_of_ble_eq_true rfl) (Nat.le_of_ble_eq_true rfl) (rfl) dX10_round_9

set_option maxHeartbeats 4000000 in
set_option maxRecDepth 100000 in
theorem k_X10_run (l : Launch) (g : GG) (L : List Nat) (f : HP) (sz : Nat) (x t dr co ot dp pn ch fr nw kp tr ac se tx rf : Nat) (hm_x : x ∈ L) (hf_x : f x = .inr (9, [.ref t, .ref dr, .ref co, .ref ot, .ref dp, .ref pn, .ref ch, .ref fr, .ref nw, .ref kp, .ref tr, .ref ac, .ref se, .ref tx, .ref rf, .int 0, .int 0, .long 0])) : MtI l g yX10_run cX10_run 3 (some .int) ({ frames := 1, cells := 0, slots := 0, locals := 20 }) [.ref x] L f sz (fun r _ => r = (-1)) := by
  refine MtI.of (by decide +kernel) (Nat.le_of_ble_eq_true rfl) ?_
  intro p e s m below meth c A hEn hP hD hS ls hl
  obtain ⟨hx, hb, hr, hml, hown, hlocks, hts, hG, hA, hE, hnm⟩ := hEn
  have hown : s.vm.findClass "RulerWord" = some m.cls := hown
  have hl : lv_has ls 3 [(0, .ref x)] := hl
  refine lv_aload_n hx hb dX10_run_0 rfl (lv_at hl 0 rfl) ?_
  refine call_i (run_V (rm := { frames := 0, cells := 0, slots := 0, locals := 0 }) hx hb hml hown hts (k_X10_roundsLeft l g _ _ _ x t dr co ot dp pn ch fr nw kp tr ac se tx rf hm_x hf_x) cV_X10_roundsLeft wg_751 ⟨Nat.le_of_ble_eq_true rfl, Nat.le_of_ble_eq_true rfl⟩ hG hE hA hP hD hS hm_x hf_x rfl rfl hl.1 (As := []) (rest := []) rfl (Nat.le_of_ble_eq_true rfl) dX10_run_1 ⟨Nat.le_of_ble_eq_true rfl, Nat.le_of_ble_eq_true rfl⟩) hA hD hS (fun r1 L2 f3 H locs hp4 hP hD hS => ?_)
  obtain ⟨er5a, er5b, er5⟩ : L2 = _ ∧ f3 = _ ∧ r1 = 0 := hp4
  rw [er5a, er5b] at hP hD
  subst er5
  refine lv_istore_n (lv' := [(1, .int 0), (0, .ref x)]) hx hb dX10_run_4 rfl hl (by decide) rfl (fun ls hl => ?_)
  refine lv_iload_n hx hb dX10_run_5 rfl (lv_at hl 0 rfl) ?_
  refine lv_iconst (v := 1) hx hb dX10_run_6 (by decide) ?_
  refine lv_icmp_ge (tgt := 12) hx hb dX10_run_7 (by decide) (fun c6 => absurd c6 (by decide)) (fun c6 => ?_)
  refine lv_iconst (v := (-1)) hx hb dX10_run_10 (by decide) ?_
  exact ret_i (ty := .int) hx hb hr hlocks (rfl) hP hD hS (Nat.le_of_ble_eq_true rfl) (Nat.le_of_ble_eq_true rfl) (rfl) dX10_run_11

set_option maxHeartbeats 4000000 in
set_option maxRecDepth 100000 in
theorem k_X10_peer (l : Launch) (g : GG) (L : List Nat) (f : HP) (sz : Nat) (x t dr co ot dp pn ch fr nw kp tr ac se tx rf : Nat) (i : Int32) (w : Int32) (hm_x : x ∈ L) (hf_x : f x = .inr (9, [.ref t, .ref dr, .ref co, .ref ot, .ref dp, .ref pn, .ref ch, .ref fr, .ref nw, .ref kp, .ref tr, .ref ac, .ref se, .ref tx, .ref rf, .int 0, .int 0, .long 0])) : MtI l g yX10_peer cX10_peer 3 (some .int) ({ frames := 1, cells := 0, slots := 0, locals := 21 }) [.ref x, .int i, .int w] L f sz (fun r _ => r = (-1)) := by
  refine MtI.of (by decide +kernel) (Nat.le_of_ble_eq_true rfl) ?_
  intro p e s m below meth c A hEn hP hD hS ls hl
  obtain ⟨hx, hb, hr, hml, hown, hlocks, hts, hG, hA, hE, hnm⟩ := hEn
  have hown : s.vm.findClass "RulerWord" = some m.cls := hown
  have hl : lv_has ls 3 [(0, .ref x), (1, .int i), (2, .int w)] := hl
  refine lv_aload_n hx hb dX10_peer_0 rfl (lv_at hl 0 rfl) ?_
  refine lv_iload_n hx hb dX10_peer_1 rfl (lv_at hl 1 rfl) ?_
  refine call_i (run_V (rm := { frames := 0, cells := 0, slots := 0, locals := 0 }) hx hb hml hown hts (k_X10_isPeer l g _ _ _ x t dr co ot dp pn ch fr nw kp tr ac se tx rf i hm_x hf_x) cV_X10_isPeer wg_897 ⟨Nat.le_of_ble_eq_true rfl, Nat.le_of_ble_eq_true rfl⟩ hG hE hA hP hD hS hm_x hf_x rfl rfl hl.1 (As := [.int i]) (rest := []) rfl (Nat.le_of_ble_eq_true rfl) dX10_peer_2 ⟨Nat.le_of_ble_eq_true rfl, Nat.le_of_ble_eq_true rfl⟩) hA hD hS (fun r1 L2 f3 H locs hp4 hP hD hS => ?_)
  obtain ⟨er5a, er5b, er5⟩ : L2 = _ ∧ f3 = _ ∧ r1 = 0 := hp4
  rw [er5a, er5b] at hP hD
  subst er5
  refine lv_if_ne (tgt := 10) hx hb dX10_peer_5 (by decide) (fun c6 => absurd c6 (by decide)) (fun c6 => ?_)
  refine lv_iconst (v := (-1)) hx hb dX10_peer_8 (by decide) ?_
  exact ret_i (ty := .int) hx hb hr hlocks (rfl) hP hD hS (Nat.le_of_ble_eq_true rfl) (Nat.le_of_ble_eq_true rfl) (rfl) dX10_peer_9

set_option maxHeartbeats 4000000 in
set_option maxRecDepth 100000 in
theorem k_X10_end (l : Launch) (g : GG) (L : List Nat) (f : HP) (sz : Nat) (x t dr co ot dp pn ch fr nw kp tr ac se tx rf tb : Nat) (n : Int32) (hm_x : x ∈ L) (hf_x : f x = .inr (9, [.ref t, .ref dr, .ref co, .ref ot, .ref dp, .ref pn, .ref ch, .ref fr, .ref nw, .ref kp, .ref tr, .ref ac, .ref se, .ref tx, .ref rf, .int 0, .int 0, .long 0])) (hm_t : t ∈ L) (hf_t : f t = .inr (8, [.ref tb, .int 0, .int 0, .int 0, .int 0])) : MtI l g yX10_end cX10_end 2 (some .boolean) ({ frames := 0, cells := 0, slots := 0, locals := 0 }) [.ref x, .int n] L f sz (fun r _ => r = endV n) := by
  refine MtI.of (by decide +kernel) (Nat.le_of_ble_eq_true rfl) ?_
  intro p e s m below meth c A hEn hP hD hS ls hl
  obtain ⟨hx, hb, hr, hml, hown, hlocks, hts, hG, hA, hE, hnm⟩ := hEn
  have hown : s.vm.findClass "RulerWord" = some m.cls := hown
  have hl : lv_has ls 2 [(0, .ref x), (1, .int n)] := hl
  refine lv_iload_n hx hb dX10_end_0 rfl (lv_at hl 1 rfl) ?_
  refine lv_if_lt (tgt := 15) hx hb dX10_end_1 (by decide) (fun c1 => ?_) (fun c1 => ?_)
  ·
    refine lv_iconst (v := 0) hx hb dX10_end_15 (by decide) ?_
    exact ret_i (ty := .boolean) hx hb hr hlocks (rfl) hP hD hS (Nat.le_of_ble_eq_true rfl) (Nat.le_of_ble_eq_true rfl) (by simp [endV, c1]) dX10_end_16
  ·
    refine lv_iload_n hx hb dX10_end_4 rfl (lv_at hl 1 rfl) ?_
    refine lv_aload_n hx hb dX10_end_5 rfl (lv_at hl 0 rfl) ?_
    refine pl_get (v := .ref t) hx hb hts (fun w h => mT (inX10 w h)) hown hG.1 hP hm_x hf_x rfl 0 (by decide) (hts _ (mT wg_475)) (fun _ h => h) rfl dX10_end_6 ?_
    refine pl_getN (v := .int 0) hx hb hts (fun w h => mT (inX8 w h)) hown hG.1 hP hm_t hf_t rfl 1 (by decide) (hG.2.1 _ wn_197) (fun _ h => h) rfl dX10_end_9 ?_
    refine lv_icmp_le (tgt := 17) hx hb dX10_end_12 (by decide) (fun c2 => ?_) (fun c2 => ?_)
    ·
      refine lv_aload_n hx hb dX10_end_17 rfl (lv_at hl 0 rfl) ?_
      refine pl_get (v := .ref t) hx hb hts (fun w h => mT (inX10 w h)) hown hG.1 hP hm_x hf_x rfl 0 (by decide) (hts _ (mT wg_475)) (fun _ h => h) rfl dX10_end_18 ?_
      refine lv_iload_n hx hb dX10_end_21 rfl (lv_at hl 1 rfl) ?_
      refine pl_putN (ty := .int) (v := .int n) (fs' := [.ref tb, .int n, .int 0, .int 0, .int 0]) hx hb hts (fun w h => mT (inX8 w h)) tyX8 tyX8_ok nmX8 hown hG.1 hP hD hS hm_t hf_t rfl 1 (by decide) (hG.2.1 _ wn_197) (fun _ h => h) rfl (by decide +kernel) (rfl) (rfl) (Nat.le_of_ble_eq_true rfl) rfl dX10_end_22 (fun H locs f3 hf5 ho4 hP hD hS => ?_)
      have hf6 := (ho4 x (kne hf_x hf_t (by decide))).trans hf_x
      refine lv_iconst (v := 1) hx hb dX10_end_25 (by decide) ?_
      exact ret_i (ty := .boolean) hx hb hr hlocks (rfl) hP hD hS (Nat.le_of_ble_eq_true rfl) (Nat.le_of_ble_eq_true rfl) (by simp [endV, c1, c2]) dX10_end_26
    ·
      refine lv_iconst (v := 0) hx hb dX10_end_15 (by decide) ?_
      exact ret_i (ty := .boolean) hx hb hr hlocks (rfl) hP hD hS (Nat.le_of_ble_eq_true rfl) (Nat.le_of_ble_eq_true rfl) (by simp [endV, c1, c2]) dX10_end_16

set_option maxHeartbeats 4000000 in
set_option maxRecDepth 100000 in
theorem k_X10_rule (l : Launch) (g : GG) (L : List Nat) (f : HP) (sz : Nat) (x t dr co ot dp pn ch fr nw kp tr ac se tx rf pl pb : Nat) (w : Int32) (hm_x : x ∈ L) (hf_x : f x = .inr (9, [.ref t, .ref dr, .ref co, .ref ot, .ref dp, .ref pn, .ref ch, .ref fr, .ref nw, .ref kp, .ref tr, .ref ac, .ref se, .ref tx, .ref rf, .int 0, .int 0, .long 0])) (hm_pn : pn ∈ L) (hf_pn : f pn = .inr (6, [.int 0, .int 0, .ref pl])) (hm_pl : pl ∈ L) (hf_pl : f pl = .inr (5, [.ref pb, .int 0])) : MtI l g yX10_rule cX10_rule 2 (some .int) ({ frames := 0, cells := 0, slots := 0, locals := 0 }) [.ref x, .int w] L f sz (fun r _ => r = ruleV w) := by
  refine MtI.of (by decide +kernel) (Nat.le_of_ble_eq_true rfl) ?_
  intro p e s m below meth c A hEn hP hD hS ls hl
  obtain ⟨hx, hb, hr, hml, hown, hlocks, hts, hG, hA, hE, hnm⟩ := hEn
  have hown : s.vm.findClass "RulerWord" = some m.cls := hown
  have hl : lv_has ls 2 [(0, .ref x), (1, .int w)] := hl
  refine lv_iload_n hx hb dX10_rule_0 rfl (lv_at hl 1 rfl) ?_
  refine lv_bipush (v := 10) hx hb dX10_rule_1 (by decide) ?_
  refine lv_icmp_ne (tgt := 17) hx hb dX10_rule_3 (by decide) (fun c1 => ?_) (fun c1 => ?_)
  ·
    refine lv_aload_n hx hb dX10_rule_17 rfl (lv_at hl 0 rfl) ?_
    refine pl_get (v := .int 0) hx hb hts (fun w h => mT (inX10 w h)) hown hG.1 hP hm_x hf_x rfl 15 (by decide) (hts _ (mT wg_490)) (fun _ h => h) rfl dX10_rule_18 ?_
    refine lv_if_ne (tgt := 27) hx hb dX10_rule_21 (by decide) (fun c2 => absurd c2 (by decide)) (fun c2 => ?_)
    refine lv_ldc hx hb hown (hts _ (mT wg_733)) dX10_rule_24 ?_
    exact ret_i (ty := .int) hx hb hr hlocks (rfl) hP hD hS (Nat.le_of_ble_eq_true rfl) (Nat.le_of_ble_eq_true rfl) (by simp [ruleV, c1]) dX10_rule_26
  ·
    refine lv_aload_n hx hb dX10_rule_6 rfl (lv_at hl 0 rfl) ?_
    refine pl_get (v := .ref pn) hx hb hts (fun w h => mT (inX10 w h)) hown hG.1 hP hm_x hf_x rfl 5 (by decide) (hts _ (mT wg_480)) (fun _ h => h) rfl dX10_rule_7 ?_
    refine pl_getN (v := .ref pl) hx hb hts (fun w h => mT (inX6 w h)) hown hG.1 hP hm_pn hf_pn rfl 2 (by decide) (hG.2.1 _ wn_289) (fun _ h => h) rfl dX10_rule_10 ?_
    refine pl_getN (v := .int 0) hx hb hts (fun w h => mT (inX5 w h)) hown hG.1 hP hm_pl hf_pl rfl 1 (by decide) (hG.2.1 _ wn_271) (fun _ h => h) rfl dX10_rule_13 ?_
    exact ret_i (ty := .int) hx hb hr hlocks (rfl) hP hD hS (Nat.le_of_ble_eq_true rfl) (Nat.le_of_ble_eq_true rfl) (by simp [ruleV, c1]) dX10_rule_16

set_option maxHeartbeats 4000000 in
set_option maxRecDepth 100000 in
theorem k_X10_say (l : Launch) (g : GG) (L : List Nat) (f : HP) (sz : Nat) (x t dr co ot dp pn ch fr nw kp tr ac se tx rf : Nat) (a1 : Int32) (a2 : Int32) (a3 : Int32) (a4 : Int32) (a5 : Int32) (hm_x : x ∈ L) (hf_x : f x = .inr (9, [.ref t, .ref dr, .ref co, .ref ot, .ref dp, .ref pn, .ref ch, .ref fr, .ref nw, .ref kp, .ref tr, .ref ac, .ref se, .ref tx, .ref rf, .int 0, .int 0, .long 0])) (hm_rf : rf ∈ L) (hf_rf : f rf = .inl (g.2.1 0, 5, .inl (fun _ => 0))) : MtI l g yX10_say cX10_say 7 (some .int) ({ frames := 1, cells := 0, slots := 0, locals := 25 }) [.ref x, .int a1, .int a2, .int a3, .int a4, .int a5] L f sz (fun r _ => r = (-1)) := by
  refine MtI.of (by decide +kernel) (Nat.le_of_ble_eq_true rfl) ?_
  intro p e s m below meth c A hEn hP hD hS ls hl
  obtain ⟨hx, hb, hr, hml, hown, hlocks, hts, hG, hA, hE, hnm⟩ := hEn
  have hown : s.vm.findClass "RulerWord" = some m.cls := hown
  have hl : lv_has ls 7 [(0, .ref x), (1, .int a1), (2, .int a2), (3, .int a3), (4, .int a4), (5, .int a5)] := hl
  refine lv_aload_n hx hb dX10_say_0 rfl (lv_at hl 0 rfl) ?_
  refine lv_iload_n hx hb dX10_say_1 rfl (lv_at hl 1 rfl) ?_
  refine lv_iload_n hx hb dX10_say_2 rfl (lv_at hl 2 rfl) ?_
  refine lv_iload_n hx hb dX10_say_3 rfl (lv_at hl 3 rfl) ?_
  refine lv_iload hx hb dX10_say_4 (lv_at hl 4 rfl) ?_
  refine lv_iload hx hb dX10_say_6 (lv_at hl 5 rfl) ?_
  refine call_i (run_V (rm := { frames := 0, cells := 0, slots := 0, locals := 0 }) hx hb hml hown hts (k_X10_whyNotSaid l g _ _ _ x t dr co ot dp pn ch fr nw kp tr ac se tx rf a1 a2 a3 a4 a5 hm_x hf_x) cV_X10_whyNotSaid wg_889 ⟨Nat.le_of_ble_eq_true rfl, Nat.le_of_ble_eq_true rfl⟩ hG hE hA hP hD hS hm_x hf_x rfl rfl hl.1 (As := [.int a1, .int a2, .int a3, .int a4, .int a5]) (rest := []) rfl (Nat.le_of_ble_eq_true rfl) dX10_say_8 ⟨Nat.le_of_ble_eq_true rfl, Nat.le_of_ble_eq_true rfl⟩) hA hD hS (fun r1 L2 f3 H locs hp4 hP hD hS => ?_)
  obtain ⟨er5a, er5b, er5⟩ : L2 = _ ∧ f3 = _ ∧ r1 = 0 := hp4
  rw [er5a, er5b] at hP hD
  subst er5
  refine lv_istore (lv' := [(6, .int 0), (0, .ref x), (1, .int a1), (2, .int a2), (3, .int a3), (4, .int a4), (5, .int a5)]) hx hb dX10_say_11 hl (by decide) rfl (fun ls hl => ?_)
  refine lv_iload hx hb dX10_say_13 (lv_at hl 0 rfl) ?_
  refine lv_iconst (v := (-1)) hx hb dX10_say_15 (by decide) ?_
  refine lv_icmp_eq (tgt := 26) hx hb dX10_say_16 (by decide) (fun c6 => absurd c6 (by decide)) (fun c6 => ?_)
  refine lv_aload_n hx hb dX10_say_19 rfl (lv_at hl 1 rfl) ?_
  refine lv_iload hx hb dX10_say_20 (lv_at hl 0 rfl) ?_
  refine call_i (run_V (rm := { frames := 0, cells := 0, slots := 0, locals := 0 }) hx hb hml hown hts (k_X10_refuse l g _ _ _ x t dr co ot dp pn ch fr nw kp tr ac se tx rf hm_x hf_x hm_rf hf_rf) cV_X10_refuse wg_906 ⟨Nat.le_of_ble_eq_true rfl, Nat.le_of_ble_eq_true rfl⟩ hG hE hA hP hD hS hm_x hf_x rfl rfl hl.1 (As := [.int 0]) (rest := []) rfl (Nat.le_of_ble_eq_true rfl) dX10_say_22 ⟨Nat.le_of_ble_eq_true rfl, Nat.le_of_ble_eq_true rfl⟩) hA hD hS (fun r7 L8 f9 H locs hp10 hP hD hS => ?_)
  have er11 : r7 = (-1) := hp10
  subst er11
  exact ret_i (ty := .int) hx hb hr hlocks (rfl) hP hD hS (Nat.le_of_ble_eq_true rfl) (Nat.le_of_ble_eq_true rfl) (rfl) dX10_say_25

set_option maxHeartbeats 4000000 in
set_option maxRecDepth 100000 in
theorem k_X10_starts (l : Launch) (g : GG) (L : List Nat) (f : HP) (sz : Nat) (x t dr co ot dp pn ch fr nw kp tr ac se tx rf : Nat) (b : Int32) (hm_x : x ∈ L) (hf_x : f x = .inr (9, [.ref t, .ref dr, .ref co, .ref ot, .ref dp, .ref pn, .ref ch, .ref fr, .ref nw, .ref kp, .ref tr, .ref ac, .ref se, .ref tx, .ref rf, .int 0, .int 0, .long 0])) (hm_co : co ∈ L) (hf_co : f co = .inr (2, [.int 0, .int 0, .int 0, .int 0, .int 0, .int 0, .int 0, .int 0])) (hm_rf : rf ∈ L) (hf_rf : f rf = .inl (g.2.1 0, 5, .inl (fun _ => 0))) : MtI l g yX10_starts cX10_starts 4 (some .int) ({ frames := 1, cells := 0, slots := 0, locals := 22 }) [.ref x, .int b] L f sz (fun r _ => r = (-1)) := by
  refine MtI.of (by decide +kernel) (Nat.le_of_ble_eq_true rfl) ?_
  intro p e s m below meth c A hEn hP hD hS ls hl
  obtain ⟨hx, hb, hr, hml, hown, hlocks, hts, hG, hA, hE, hnm⟩ := hEn
  have hown : s.vm.findClass "RulerWord" = some m.cls := hown
  have hl : lv_has ls 4 [(0, .ref x), (1, .int b)] := hl
  refine lv_aload_n hx hb dX10_starts_0 rfl (lv_at hl 0 rfl) ?_
  refine lv_iload_n hx hb dX10_starts_1 rfl (lv_at hl 1 rfl) ?_
  refine lv_aload_n hx hb dX10_starts_2 rfl (lv_at hl 0 rfl) ?_
  refine pl_get (v := .ref co) hx hb hts (fun w h => mT (inX10 w h)) hown hG.1 hP hm_x hf_x rfl 2 (by decide) (hts _ (mT wg_477)) (fun _ h => h) rfl dX10_starts_3 ?_
  refine call_i (run_VN (rm := { frames := 0, cells := 0, slots := 0, locals := 0 }) hx hb hml hown hts (k_X2_everybody l g _ _ _ co hm_co hf_co) cV_X2_everybody wn_918 ⟨Nat.le_of_ble_eq_true rfl, Nat.le_of_ble_eq_true rfl⟩ hG hE hA hP hD hS hm_co hf_co rfl rfl hl.1 (As := []) (rest := [.int b, .ref x]) rfl (Nat.le_of_ble_eq_true rfl) dX10_starts_6 ⟨Nat.le_of_ble_eq_true rfl, Nat.le_of_ble_eq_true rfl⟩) hA hD hS (fun r1 L2 f3 H locs hp4 hP hD hS => ?_)
  obtain ⟨er5a, er5b, er5⟩ : L2 = _ ∧ f3 = _ ∧ r1 = 0 := hp4
  rw [er5a, er5b] at hP hD
  subst er5
  refine call_i (run_V (rm := { frames := 0, cells := 0, slots := 0, locals := 0 }) hx hb hml hown hts (k_X10_whyNotTold l g _ _ _ x t dr co ot dp pn ch fr nw kp tr ac se tx rf b 0 hm_x hf_x) cV_X10_whyNotTold wg_922 ⟨Nat.le_of_ble_eq_true rfl, Nat.le_of_ble_eq_true rfl⟩ hG hE hA hP hD hS hm_x hf_x rfl rfl hl.1 (As := [.int b, .int 0]) (rest := []) rfl (Nat.le_of_ble_eq_true rfl) dX10_starts_9 ⟨Nat.le_of_ble_eq_true rfl, Nat.le_of_ble_eq_true rfl⟩) hA hD hS (fun r6 L7 f8 H locs hp9 hP hD hS => ?_)
  obtain ⟨er10a, er10b, er10⟩ : L7 = _ ∧ f8 = _ ∧ r6 = 0 := hp9
  rw [er10a, er10b] at hP hD
  subst er10
  refine lv_istore_n (lv' := [(2, .int 0), (0, .ref x), (1, .int b)]) hx hb dX10_starts_12 rfl hl (by decide) rfl (fun ls hl => ?_)
  refine lv_iload_n hx hb dX10_starts_13 rfl (lv_at hl 0 rfl) ?_
  refine lv_iconst (v := (-1)) hx hb dX10_starts_14 (by decide) ?_
  refine lv_icmp_eq (tgt := 24) hx hb dX10_starts_15 (by decide) (fun c11 => absurd c11 (by decide)) (fun c11 => ?_)
  refine lv_aload_n hx hb dX10_starts_18 rfl (lv_at hl 1 rfl) ?_
  refine lv_iload_n hx hb dX10_starts_19 rfl (lv_at hl 0 rfl) ?_
  refine call_i (run_V (rm := { frames := 0, cells := 0, slots := 0, locals := 0 }) hx hb hml hown hts (k_X10_refuse l g _ _ _ x t dr co ot dp pn ch fr nw kp tr ac se tx rf hm_x hf_x hm_rf hf_rf) cV_X10_refuse wg_906 ⟨Nat.le_of_ble_eq_true rfl, Nat.le_of_ble_eq_true rfl⟩ hG hE hA hP hD hS hm_x hf_x rfl rfl hl.1 (As := [.int 0]) (rest := []) rfl (Nat.le_of_ble_eq_true rfl) dX10_starts_20 ⟨Nat.le_of_ble_eq_true rfl, Nat.le_of_ble_eq_true rfl⟩) hA hD hS (fun r12 L13 f14 H locs hp15 hP hD hS => ?_)
  have er16 : r12 = (-1) := hp15
  subst er16
  exact ret_i (ty := .int) hx hb hr hlocks (rfl) hP hD hS (Nat.le_of_ble_eq_true rfl) (Nat.le_of_ble_eq_true rfl) (rfl) dX10_starts_23

set_option maxHeartbeats 4000000 in
set_option maxRecDepth 100000 in
theorem k_X10_falseOnes (l : Launch) (g : GG) (L : List Nat) (f : HP) (sz : Nat) (x t dr co ot dp pn ch fr nw kp tr ac se tx rf : Nat) (b : Int32) (hm_x : x ∈ L) (hf_x : f x = .inr (9, [.ref t, .ref dr, .ref co, .ref ot, .ref dp, .ref pn, .ref ch, .ref fr, .ref nw, .ref kp, .ref tr, .ref ac, .ref se, .ref tx, .ref rf, .int 0, .int 0, .long 0])) (hm_co : co ∈ L) (hf_co : f co = .inr (2, [.int 0, .int 0, .int 0, .int 0, .int 0, .int 0, .int 0, .int 0])) (hm_rf : rf ∈ L) (hf_rf : f rf = .inl (g.2.1 0, 5, .inl (fun _ => 0))) : MtI l g yX10_falseOnes cX10_falseOnes 4 (some .int) ({ frames := 1, cells := 0, slots := 0, locals := 22 }) [.ref x, .int b] L f sz (fun r _ => r = (-1)) := by
  refine MtI.of (by decide +kernel) (Nat.le_of_ble_eq_true rfl) ?_
  intro p e s m below meth c A hEn hP hD hS ls hl
  obtain ⟨hx, hb, hr, hml, hown, hlocks, hts, hG, hA, hE, hnm⟩ := hEn
  have hown : s.vm.findClass "RulerWord" = some m.cls := hown
  have hl : lv_has ls 4 [(0, .ref x), (1, .int b)] := hl
  refine lv_aload_n hx hb dX10_falseOnes_0 rfl (lv_at hl 0 rfl) ?_
  refine lv_iload_n hx hb dX10_falseOnes_1 rfl (lv_at hl 1 rfl) ?_
  refine lv_aload_n hx hb dX10_falseOnes_2 rfl (lv_at hl 0 rfl) ?_
  refine pl_get (v := .ref co) hx hb hts (fun w h => mT (inX10 w h)) hown hG.1 hP hm_x hf_x rfl 2 (by decide) (hts _ (mT wg_477)) (fun _ h => h) rfl dX10_falseOnes_3 ?_
  refine call_i (run_VN (rm := { frames := 0, cells := 0, slots := 0, locals := 0 }) hx hb hml hown hts (k_X2_everybody l g _ _ _ co hm_co hf_co) cV_X2_everybody wn_918 ⟨Nat.le_of_ble_eq_true rfl, Nat.le_of_ble_eq_true rfl⟩ hG hE hA hP hD hS hm_co hf_co rfl rfl hl.1 (As := []) (rest := [.int b, .ref x]) rfl (Nat.le_of_ble_eq_true rfl) dX10_falseOnes_6 ⟨Nat.le_of_ble_eq_true rfl, Nat.le_of_ble_eq_true rfl⟩) hA hD hS (fun r1 L2 f3 H locs hp4 hP hD hS => ?_)
  obtain ⟨er5a, er5b, er5⟩ : L2 = _ ∧ f3 = _ ∧ r1 = 0 := hp4
  rw [er5a, er5b] at hP hD
  subst er5
  refine lv_iconst (v := 1) hx hb dX10_falseOnes_9 (by decide) ?_
  refine lv_isub hx hb dX10_falseOnes_10 ?_
  refine lv_topi (fun x6 ex6 => ?_)
  obtain rfl : x6 = (-1) := ex6.trans (by decide)
  refine call_i (run_V (rm := { frames := 0, cells := 0, slots := 0, locals := 0 }) hx hb hml hown hts (k_X10_whyNotTold l g _ _ _ x t dr co ot dp pn ch fr nw kp tr ac se tx rf b ((-1)) hm_x hf_x) cV_X10_whyNotTold wg_922 ⟨Nat.le_of_ble_eq_true rfl, Nat.le_of_ble_eq_true rfl⟩ hG hE hA hP hD hS hm_x hf_x rfl rfl hl.1 (As := [.int b, .int (-1)]) (rest := []) rfl (Nat.le_of_ble_eq_true rfl) dX10_falseOnes_11 ⟨Nat.le_of_ble_eq_true rfl, Nat.le_of_ble_eq_true rfl⟩) hA hD hS (fun r7 L8 f9 H locs hp10 hP hD hS => ?_)
  obtain ⟨er11a, er11b, er11⟩ : L8 = _ ∧ f9 = _ ∧ r7 = 0 := hp10
  rw [er11a, er11b] at hP hD
  subst er11
  refine lv_istore_n (lv' := [(2, .int 0), (0, .ref x), (1, .int b)]) hx hb dX10_falseOnes_14 rfl hl (by decide) rfl (fun ls hl => ?_)
  refine lv_iload_n hx hb dX10_falseOnes_15 rfl (lv_at hl 0 rfl) ?_
  refine lv_iconst (v := (-1)) hx hb dX10_falseOnes_16 (by decide) ?_
  refine lv_icmp_eq (tgt := 26) hx hb dX10_falseOnes_17 (by decide) (fun c12 => absurd c12 (by decide)) (fun c12 => ?_)
  refine lv_aload_n hx hb dX10_falseOnes_20 rfl (lv_at hl 1 rfl) ?_
  refine lv_iload_n hx hb dX10_falseOnes_21 rfl (lv_at hl 0 rfl) ?_
  refine call_i (run_V (rm := { frames := 0, cells := 0, slots := 0, locals := 0 }) hx hb hml hown hts (k_X10_refuse l g _ _ _ x t dr co ot dp pn ch fr nw kp tr ac se tx rf hm_x hf_x hm_rf hf_rf) cV_X10_refuse wg_906 ⟨Nat.le_of_ble_eq_true rfl, Nat.le_of_ble_eq_true rfl⟩ hG hE hA hP hD hS hm_x hf_x rfl rfl hl.1 (As := [.int 0]) (rest := []) rfl (Nat.le_of_ble_eq_true rfl) dX10_falseOnes_22 ⟨Nat.le_of_ble_eq_true rfl, Nat.le_of_ble_eq_true rfl⟩) hA hD hS (fun r13 L14 f15 H locs hp16 hP hD hS => ?_)
  have er17 : r13 = (-1) := hp16
  subst er17
  exact ret_i (ty := .int) hx hb hr hlocks (rfl) hP hD hS (Nat.le_of_ble_eq_true rfl) (Nat.le_of_ble_eq_true rfl) (rfl) dX10_falseOnes_25

set_option maxHeartbeats 4000000 in
set_option maxRecDepth 100000 in
theorem k_X10_heard (l : Launch) (g : GG) (L : List Nat) (f : HP) (sz : Nat) (x t dr co ot dp pn ch fr nw kp tr ac se tx rf : Nat) (a1 : Int32) (a2 : Int32) (a3 : Int32) (a4 : Int32) (hm_x : x ∈ L) (hf_x : f x = .inr (9, [.ref t, .ref dr, .ref co, .ref ot, .ref dp, .ref pn, .ref ch, .ref fr, .ref nw, .ref kp, .ref tr, .ref ac, .ref se, .ref tx, .ref rf, .int 0, .int 0, .long 0])) : MtI l g yX10_heard cX10_heard 6 (some .int) ({ frames := 1, cells := 0, slots := 0, locals := 21 }) [.ref x, .int a1, .int a2, .int a3, .int a4] L f sz (fun r _ => r = (-1)) := by
  refine MtI.of (by decide +kernel) (Nat.le_of_ble_eq_true rfl) ?_
  intro p e s m below meth c A hEn hP hD hS ls hl
  obtain ⟨hx, hb, hr, hml, hown, hlocks, hts, hG, hA, hE, hnm⟩ := hEn
  have hown : s.vm.findClass "RulerWord" = some m.cls := hown
  have hl : lv_has ls 6 [(0, .ref x), (1, .int a1), (2, .int a2), (3, .int a3), (4, .int a4)] := hl
  refine lv_aload_n hx hb dX10_heard_0 rfl (lv_at hl 0 rfl) ?_
  refine lv_iload_n hx hb dX10_heard_1 rfl (lv_at hl 3 rfl) ?_
  refine call_i (run_V (rm := { frames := 0, cells := 0, slots := 0, locals := 0 }) hx hb hml hown hts (k_X10_isPeer l g _ _ _ x t dr co ot dp pn ch fr nw kp tr ac se tx rf a3 hm_x hf_x) cV_X10_isPeer wg_897 ⟨Nat.le_of_ble_eq_true rfl, Nat.le_of_ble_eq_true rfl⟩ hG hE hA hP hD hS hm_x hf_x rfl rfl hl.1 (As := [.int a3]) (rest := []) rfl (Nat.le_of_ble_eq_true rfl) dX10_heard_2 ⟨Nat.le_of_ble_eq_true rfl, Nat.le_of_ble_eq_true rfl⟩) hA hD hS (fun r1 L2 f3 H locs hp4 hP hD hS => ?_)
  obtain ⟨er5a, er5b, er5⟩ : L2 = _ ∧ f3 = _ ∧ r1 = 0 := hp4
  rw [er5a, er5b] at hP hD
  subst er5
  refine lv_if_eq (tgt := 26) hx hb dX10_heard_5 (by decide) (fun c6 => ?_) (fun c6 => absurd (by decide) c6)
  refine lv_iconst (v := (-1)) hx hb dX10_heard_26 (by decide) ?_
  exact ret_i (ty := .int) hx hb hr hlocks (rfl) hP hD hS (Nat.le_of_ble_eq_true rfl) (Nat.le_of_ble_eq_true rfl) (rfl) dX10_heard_27

set_option maxHeartbeats 4000000 in
set_option maxRecDepth 100000 in
theorem k_X10_told (l : Launch) (g : GG) (L : List Nat) (f : HP) (sz : Nat) (x t dr co ot dp pn ch fr nw kp tr ac se tx rf : Nat) (i : Int32) (p0 : Int32) (w : Int32) (hm_x : x ∈ L) (hf_x : f x = .inr (9, [.ref t, .ref dr, .ref co, .ref ot, .ref dp, .ref pn, .ref ch, .ref fr, .ref nw, .ref kp, .ref tr, .ref ac, .ref se, .ref tx, .ref rf, .int 0, .int 0, .long 0])) : MtI l g yX10_told cX10_told 5 (some .int) ({ frames := 1, cells := 0, slots := 0, locals := 21 }) [.ref x, .int i, .int p0, .int w] L f sz (fun r _ => r = (-1)) := by
  refine MtI.of (by decide +kernel) (Nat.le_of_ble_eq_true rfl) ?_
  intro p e s m below meth c A hEn hP hD hS ls hl
  obtain ⟨hx, hb, hr, hml, hown, hlocks, hts, hG, hA, hE, hnm⟩ := hEn
  have hown : s.vm.findClass "RulerWord" = some m.cls := hown
  have hl : lv_has ls 5 [(0, .ref x), (1, .int i), (2, .int p0), (3, .int w)] := hl
  refine lv_aload_n hx hb dX10_told_0 rfl (lv_at hl 0 rfl) ?_
  refine lv_iload_n hx hb dX10_told_1 rfl (lv_at hl 1 rfl) ?_
  refine call_i (run_V (rm := { frames := 0, cells := 0, slots := 0, locals := 0 }) hx hb hml hown hts (k_X10_isPeer l g _ _ _ x t dr co ot dp pn ch fr nw kp tr ac se tx rf i hm_x hf_x) cV_X10_isPeer wg_897 ⟨Nat.le_of_ble_eq_true rfl, Nat.le_of_ble_eq_true rfl⟩ hG hE hA hP hD hS hm_x hf_x rfl rfl hl.1 (As := [.int i]) (rest := []) rfl (Nat.le_of_ble_eq_true rfl) dX10_told_2 ⟨Nat.le_of_ble_eq_true rfl, Nat.le_of_ble_eq_true rfl⟩) hA hD hS (fun r1 L2 f3 H locs hp4 hP hD hS => ?_)
  obtain ⟨er5a, er5b, er5⟩ : L2 = _ ∧ f3 = _ ∧ r1 = 0 := hp4
  rw [er5a, er5b] at hP hD
  subst er5
  refine lv_if_eq (tgt := 16) hx hb dX10_told_5 (by decide) (fun c6 => ?_) (fun c6 => absurd (by decide) c6)
  refine lv_iconst (v := (-1)) hx hb dX10_told_16 (by decide) ?_
  exact ret_i (ty := .int) hx hb hr hlocks (rfl) hP hD hS (Nat.le_of_ble_eq_true rfl) (Nat.le_of_ble_eq_true rfl) (rfl) dX10_told_17

set_option maxHeartbeats 4000000 in
set_option maxRecDepth 100000 in
theorem k_X10_agreed (l : Launch) (g : GG) (L : List Nat) (f : HP) (sz : Nat) (x t dr co ot dp pn ch fr nw kp tr ac se tx rf n0 n1 n2 n3 n4 n5 n6 n7 n8 : Nat) (hm_x : x ∈ L) (hf_x : f x = .inr (9, [.ref t, .ref dr, .ref co, .ref ot, .ref dp, .ref pn, .ref ch, .ref fr, .ref nw, .ref kp, .ref tr, .ref ac, .ref se, .ref tx, .ref rf, .int 0, .int 0, .long 0])) (hm_nw : nw ∈ L) (hf_nw : f nw = .inr (3, [.int 0, .int 0, .int 0, .int 0, .int 0, .int 0, .int 0, .long 0, .long 0, .ref n0, .ref n1, .ref n2, .ref n3, .ref n4, .ref n5, .ref n6, .ref n7, .ref n8])) (hm_co : co ∈ L) (hf_co : f co = .inr (2, [.int 0, .int 0, .int 0, .int 0, .int 0, .int 0, .int 0, .int 0])) : MtI l g yX10_agreed cX10_agreed 1 (some .int) ({ frames := 3, cells := 0, slots := 0, locals := 64 }) [.ref x] L f sz (fun r _ => r = (-1)) := by
  refine MtI.of (by decide +kernel) (Nat.le_of_ble_eq_true rfl) ?_
  intro p e s m below meth c A hEn hP hD hS ls hl
  obtain ⟨hx, hb, hr, hml, hown, hlocks, hts, hG, hA, hE, hnm⟩ := hEn
  have hown : s.vm.findClass "RulerWord" = some m.cls := hown
  have hl : lv_has ls 1 [(0, .ref x)] := hl
  refine lv_aload_n hx hb dX10_agreed_0 rfl (lv_at hl 0 rfl) ?_
  refine pl_get (v := .ref nw) hx hb hts (fun w h => mT (inX10 w h)) hown hG.1 hP hm_x hf_x rfl 8 (by decide) (hts _ (mT wg_483)) (fun _ h => h) rfl dX10_agreed_1 ?_
  refine lv_aload_n hx hb dX10_agreed_4 rfl (lv_at hl 0 rfl) ?_
  refine pl_get (v := .ref co) hx hb hts (fun w h => mT (inX10 w h)) hown hG.1 hP hm_x hf_x rfl 2 (by decide) (hts _ (mT wg_477)) (fun _ h => h) rfl dX10_agreed_5 ?_
  refine call_i (run_VN (rm := { frames := 2, cells := 0, slots := 0, locals := 41 }) hx hb hml hown hts (k_X3_agreedFrom l g _ _ _ nw n0 n1 n2 n3 n4 n5 n6 n7 n8 co hm_nw hf_nw hm_co hf_co) cV_X3_agreedFrom wn_968 ⟨Nat.le_of_ble_eq_true rfl, Nat.le_of_ble_eq_true rfl⟩ hG hE hA hP hD hS hm_nw hf_nw rfl rfl hl.1 (As := [.ref co]) (rest := []) rfl (Nat.le_of_ble_eq_true rfl) dX10_agreed_8 ⟨Nat.le_of_ble_eq_true rfl, Nat.le_of_ble_eq_true rfl⟩) hA hD hS (fun r1 L2 f3 H locs hp4 hP hD hS => ?_)
  obtain ⟨er5a, er5b, er5⟩ : L2 = _ ∧ f3 = _ ∧ r1 = (-1) := hp4
  rw [er5a, er5b] at hP hD
  subst er5
  exact ret_i (ty := .int) hx hb hr hlocks (rfl) hP hD hS (Nat.le_of_ble_eq_true rfl) (Nat.le_of_ble_eq_true rfl) (rfl) dX10_agreed_11

set_option maxHeartbeats 4000000 in
set_option maxRecDepth 100000 in
theorem k_X10_state (l : Launch) (g : GG) (L : List Nat) (f : HP) (sz : Nat) (x t dr co ot dp pn ch fr nw kp tr ac se tx rf : Nat) (w : Int32) (hm_x : x ∈ L) (hf_x : f x = .inr (9, [.ref t, .ref dr, .ref co, .ref ot, .ref dp, .ref pn, .ref ch, .ref fr, .ref nw, .ref kp, .ref tr, .ref ac, .ref se, .ref tx, .ref rf, .int 0, .int 0, .long 0])) : MtI l g yX10_state cX10_state 4 (some .int) ({ frames := 0, cells := 0, slots := 0, locals := 0 }) [.ref x, .int w] L f sz (fun r _ => r = (-1)) := by
  refine MtI.of (by decide +kernel) (Nat.le_of_ble_eq_true rfl) ?_
  intro p e s m below meth c A hEn hP hD hS ls hl
  obtain ⟨hx, hb, hr, hml, hown, hlocks, hts, hG, hA, hE, hnm⟩ := hEn
  have hown : s.vm.findClass "RulerWord" = some m.cls := hown
  have hl : lv_has ls 4 [(0, .ref x), (1, .int w)] := hl
  refine lv_aload_n hx hb dX10_state_0 rfl (lv_at hl 0 rfl) ?_
  refine pl_get (v := .int 0) hx hb hts (fun w h => mT (inX10 w h)) hown hG.1 hP hm_x hf_x rfl 15 (by decide) (hts _ (mT wg_490)) (fun _ h => h) rfl dX10_state_1 ?_
  refine lv_if_ne (tgt := 9) hx hb dX10_state_4 (by decide) (fun c1 => absurd c1 (by decide)) (fun c1 => ?_)
  refine lv_iconst (v := (-1)) hx hb dX10_state_7 (by decide) ?_
  exact ret_i (ty := .int) hx hb hr hlocks (rfl) hP hD hS (Nat.le_of_ble_eq_true rfl) (Nat.le_of_ble_eq_true rfl) (rfl) dX10_state_8

set_option maxHeartbeats 4000000 in
set_option maxRecDepth 100000 in
theorem k_X10_letters (l : Launch) (g : GG) (L : List Nat) (f : HP) (sz : Nat) (x t dr co ot dp pn ch fr nw kp tr ac se tx rf : Nat) (w : Int32) (hm_x : x ∈ L) (hf_x : f x = .inr (9, [.ref t, .ref dr, .ref co, .ref ot, .ref dp, .ref pn, .ref ch, .ref fr, .ref nw, .ref kp, .ref tr, .ref ac, .ref se, .ref tx, .ref rf, .int 0, .int 0, .long 0])) : MtI l g yX10_letters cX10_letters 3 (some .int) ({ frames := 0, cells := 0, slots := 0, locals := 0 }) [.ref x, .int w] L f sz (fun r _ => r = (-1)) := by
  refine MtI.of (by decide +kernel) (Nat.le_of_ble_eq_true rfl) ?_
  intro p e s m below meth c A hEn hP hD hS ls hl
  obtain ⟨hx, hb, hr, hml, hown, hlocks, hts, hG, hA, hE, hnm⟩ := hEn
  have hown : s.vm.findClass "RulerWord" = some m.cls := hown
  have hl : lv_has ls 3 [(0, .ref x), (1, .int w)] := hl
  refine lv_aload_n hx hb dX10_letters_0 rfl (lv_at hl 0 rfl) ?_
  refine pl_get (v := .int 0) hx hb hts (fun w h => mT (inX10 w h)) hown hG.1 hP hm_x hf_x rfl 15 (by decide) (hts _ (mT wg_490)) (fun _ h => h) rfl dX10_letters_1 ?_
  refine lv_if_ne (tgt := 9) hx hb dX10_letters_4 (by decide) (fun c1 => absurd c1 (by decide)) (fun c1 => ?_)
  refine lv_iconst (v := (-1)) hx hb dX10_letters_7 (by decide) ?_
  exact ret_i (ty := .int) hx hb hr hlocks (rfl) hP hD hS (Nat.le_of_ble_eq_true rfl) (Nat.le_of_ble_eq_true rfl) (rfl) dX10_letters_8

set_option maxHeartbeats 4000000 in
set_option maxRecDepth 100000 in
theorem k_X10_trueRuler (l : Launch) (g : GG) (L : List Nat) (f : HP) (sz : Nat) (x t dr co ot dp pn ch fr nw kp tr ac se tx rf : Nat) (hm_x : x ∈ L) (hf_x : f x = .inr (9, [.ref t, .ref dr, .ref co, .ref ot, .ref dp, .ref pn, .ref ch, .ref fr, .ref nw, .ref kp, .ref tr, .ref ac, .ref se, .ref tx, .ref rf, .int 0, .int 0, .long 0])) : MtI l g yX10_trueRuler cX10_trueRuler 2 (some .int) ({ frames := 0, cells := 0, slots := 0, locals := 0 }) [.ref x] L f sz (fun r _ => r = (-1)) := by
  refine MtI.of (by decide +kernel) (Nat.le_of_ble_eq_true rfl) ?_
  intro p e s m below meth c A hEn hP hD hS ls hl
  obtain ⟨hx, hb, hr, hml, hown, hlocks, hts, hG, hA, hE, hnm⟩ := hEn
  have hown : s.vm.findClass "RulerWord" = some m.cls := hown
  have hl : lv_has ls 2 [(0, .ref x)] := hl
  refine lv_iconst (v := 0) hx hb dX10_trueRuler_0 (by decide) ?_
  refine lv_istore_n (lv' := [(1, .int 0), (0, .ref x)]) hx hb dX10_trueRuler_1 rfl hl (by decide) rfl (fun ls hl => ?_)
  refine lv_aload_n hx hb dX10_trueRuler_2 rfl (lv_at hl 1 rfl) ?_
  refine pl_get (v := .int 0) hx hb hts (fun w h => mT (inX10 w h)) hown hG.1 hP hm_x hf_x rfl 15 (by decide) (hts _ (mT wg_490)) (fun _ h => h) rfl dX10_trueRuler_3 ?_
  refine lv_if_eq (tgt := 49) hx hb dX10_trueRuler_6 (by decide) (fun c1 => ?_) (fun c1 => absurd (by decide) c1)
  refine lv_iconst (v := (-1)) hx hb dX10_trueRuler_49 (by decide) ?_
  exact ret_i (ty := .int) hx hb hr hlocks (rfl) hP hD hS (Nat.le_of_ble_eq_true rfl) (Nat.le_of_ble_eq_true rfl) (rfl) dX10_trueRuler_50

set_option maxHeartbeats 4000000 in
set_option maxRecDepth 100000 in
theorem k_X10_greatest (l : Launch) (g : GG) (L : List Nat) (f : HP) (sz : Nat) (x : Nat) (form : Int32) (n : Int32)  : MtI l g yX10_greatest cX10_greatest 3 (some .int) ({ frames := 1, cells := 0, slots := 0, locals := 21 }) [.ref x, .int form, .int n] L f sz (fun r _ => r = grV form n) := by
  refine MtI.of (by decide +kernel) (Nat.le_of_ble_eq_true rfl) ?_
  intro p e s m below meth c A hEn hP hD hS ls hl
  obtain ⟨hx, hb, hr, hml, hown, hlocks, hts, hG, hA, hE, hnm⟩ := hEn
  have hown : s.vm.findClass "RulerWord" = some m.cls := hown
  have hl : lv_has ls 3 [(0, .ref x), (1, .int form), (2, .int n)] := hl
  refine lv_iload_n hx hb dX10_greatest_0 rfl (lv_at hl 1 rfl) ?_
  refine lv_if_lt (tgt := 20) hx hb dX10_greatest_1 (by decide) (fun c1 => ?_) (fun c1 => ?_)
  ·
    refine lv_iconst (v := (-1)) hx hb dX10_greatest_20 (by decide) ?_
    exact ret_i (ty := .int) hx hb hr hlocks (rfl) hP hD hS (Nat.le_of_ble_eq_true rfl) (Nat.le_of_ble_eq_true rfl) (by simp [grV, c1]) dX10_greatest_21
  ·
    refine lv_iload_n hx hb dX10_greatest_4 rfl (lv_at hl 1 rfl) ?_
    refine lv_iconst (v := 1) hx hb dX10_greatest_5 (by decide) ?_
    refine lv_icmp_gt (tgt := 20) hx hb dX10_greatest_6 (by decide) (fun c2 => ?_) (fun c2 => ?_)
    ·
      refine lv_iconst (v := (-1)) hx hb dX10_greatest_20 (by decide) ?_
      exact ret_i (ty := .int) hx hb hr hlocks (rfl) hP hD hS (Nat.le_of_ble_eq_true rfl) (Nat.le_of_ble_eq_true rfl) (by simp [grV, c1, c2]) dX10_greatest_21
    ·
      refine lv_iload_n hx hb dX10_greatest_9 rfl (lv_at hl 2 rfl) ?_
      refine lv_iconst (v := 1) hx hb dX10_greatest_10 (by decide) ?_
      refine lv_icmp_lt (tgt := 20) hx hb dX10_greatest_11 (by decide) (fun c3 => ?_) (fun c3 => ?_)
      ·
        refine lv_iconst (v := (-1)) hx hb dX10_greatest_20 (by decide) ?_
        exact ret_i (ty := .int) hx hb hr hlocks (rfl) hP hD hS (Nat.le_of_ble_eq_true rfl) (Nat.le_of_ble_eq_true rfl) (by simp [grV, c1, c2, c3]) dX10_greatest_21
      ·
        refine lv_iload_n hx hb dX10_greatest_14 rfl (lv_at hl 2 rfl) ?_
        refine lv_bipush (v := 100) hx hb dX10_greatest_15 (by decide) ?_
        refine lv_icmp_le (tgt := 22) hx hb dX10_greatest_17 (by decide) (fun c4 => ?_) (fun c4 => ?_)
        ·
          refine lv_iload_n hx hb dX10_greatest_22 rfl (lv_at hl 1 rfl) ?_
          refine lv_iload_n hx hb dX10_greatest_23 rfl (lv_at hl 2 rfl) ?_
          refine call_i (run_S (rm := { frames := 0, cells := 0, slots := 0, locals := 0 }) hx hb hml hown hts (k_X10_greatestBound l g _ _ _ form n) cS_X10_greatestBound wg_1013 ⟨Nat.le_of_ble_eq_true rfl, Nat.le_of_ble_eq_true rfl⟩ hG hE hA hP hD hS rfl hl.1 (As := [.int form, .int n]) (rest := []) rfl (Nat.le_of_ble_eq_true rfl) dX10_greatest_24 ⟨Nat.le_of_ble_eq_true rfl, Nat.le_of_ble_eq_true rfl⟩) hA hD hS (fun r5 L6 f7 H locs hp8 hP hD hS => ?_)
          obtain ⟨er9a, er9b, er9⟩ : L6 = _ ∧ f7 = _ ∧ r5 = grB form n := hp8
          rw [er9a, er9b] at hP hD
          exact ret_i (ty := .int) hx hb hr hlocks (rfl) hP hD hS (Nat.le_of_ble_eq_true rfl) (Nat.le_of_ble_eq_true rfl) (by simp [grV, c1, c2, c3, c4, er9]) dX10_greatest_27
        ·
          refine lv_iconst (v := (-1)) hx hb dX10_greatest_20 (by decide) ?_
          exact ret_i (ty := .int) hx hb hr hlocks (rfl) hP hD hS (Nat.le_of_ble_eq_true rfl) (Nat.le_of_ble_eq_true rfl) (by simp [grV, c1, c2, c3, c4]) dX10_greatest_21

set_option maxHeartbeats 4000000 in
set_option maxRecDepth 100000 in
theorem k_X10_free (l : Launch) (g : GG) (L : List Nat) (f : HP) (sz : Nat) (x t dr co ot dp pn ch fr nw kp tr ac se tx rf : Nat) (hm_x : x ∈ L) (hf_x : f x = .inr (9, [.ref t, .ref dr, .ref co, .ref ot, .ref dp, .ref pn, .ref ch, .ref fr, .ref nw, .ref kp, .ref tr, .ref ac, .ref se, .ref tx, .ref rf, .int 0, .int 0, .long 0])) : MtI l g yX10_free cX10_free 1 (some .int) ({ frames := 0, cells := 0, slots := 0, locals := 0 }) [.ref x] L f sz (fun r _ => r = (-1)) := by
  refine MtI.of (by decide +kernel) (Nat.le_of_ble_eq_true rfl) ?_
  intro p e s m below meth c A hEn hP hD hS ls hl
  obtain ⟨hx, hb, hr, hml, hown, hlocks, hts, hG, hA, hE, hnm⟩ := hEn
  have hown : s.vm.findClass "RulerWord" = some m.cls := hown
  have hl : lv_has ls 1 [(0, .ref x)] := hl
  refine lv_aload_n hx hb dX10_free_0 rfl (lv_at hl 0 rfl) ?_
  refine pl_get (v := .int 0) hx hb hts (fun w h => mT (inX10 w h)) hown hG.1 hP hm_x hf_x rfl 15 (by decide) (hts _ (mT wg_490)) (fun _ h => h) rfl dX10_free_1 ?_
  refine lv_if_eq (tgt := 21) hx hb dX10_free_4 (by decide) (fun c1 => ?_) (fun c1 => absurd (by decide) c1)
  refine lv_iconst (v := (-1)) hx hb dX10_free_21 (by decide) ?_
  exact ret_i (ty := .int) hx hb hr hlocks (rfl) hP hD hS (Nat.le_of_ble_eq_true rfl) (Nat.le_of_ble_eq_true rfl) (rfl) dX10_free_22

set_option maxHeartbeats 4000000 in
set_option maxRecDepth 100000 in
theorem k_X10_broken (l : Launch) (g : GG) (L : List Nat) (f : HP) (sz : Nat) (x t dr co ot dp pn ch fr nw kp tr ac se tx rf n0 n1 n2 n3 n4 n5 n6 n7 n8 : Nat) (hm_x : x ∈ L) (hf_x : f x = .inr (9, [.ref t, .ref dr, .ref co, .ref ot, .ref dp, .ref pn, .ref ch, .ref fr, .ref nw, .ref kp, .ref tr, .ref ac, .ref se, .ref tx, .ref rf, .int 0, .int 0, .long 0])) (hm_nw : nw ∈ L) (hf_nw : f nw = .inr (3, [.int 0, .int 0, .int 0, .int 0, .int 0, .int 0, .int 0, .long 0, .long 0, .ref n0, .ref n1, .ref n2, .ref n3, .ref n4, .ref n5, .ref n6, .ref n7, .ref n8])) : MtI l g yX10_broken cX10_broken 1 (some .int) ({ frames := 1, cells := 0, slots := 0, locals := 21 }) [.ref x] L f sz (fun r _ => r = (-2)) := by
  refine MtI.of (by decide +kernel) (Nat.le_of_ble_eq_true rfl) ?_
  intro p e s m below meth c A hEn hP hD hS ls hl
  obtain ⟨hx, hb, hr, hml, hown, hlocks, hts, hG, hA, hE, hnm⟩ := hEn
  have hown : s.vm.findClass "RulerWord" = some m.cls := hown
  have hl : lv_has ls 1 [(0, .ref x)] := hl
  refine lv_aload_n hx hb dX10_broken_0 rfl (lv_at hl 0 rfl) ?_
  refine lv_aload_n hx hb dX10_broken_1 rfl (lv_at hl 0 rfl) ?_
  refine pl_get (v := .ref nw) hx hb hts (fun w h => mT (inX10 w h)) hown hG.1 hP hm_x hf_x rfl 8 (by decide) (hts _ (mT wg_483)) (fun _ h => h) rfl dX10_broken_2 ?_
  refine pl_getN (v := .int 0) hx hb hts (fun w h => mT (inX3 w h)) hown hG.1 hP hm_nw hf_nw rfl 1 (by decide) (hG.2.1 _ wn_339) (fun _ h => h) rfl dX10_broken_5 ?_
  refine call_i (run_V (rm := { frames := 0, cells := 0, slots := 0, locals := 0 }) hx hb hml hown hts (k_X10_isAsked l g _ _ _ x t dr co ot dp pn ch fr nw kp tr ac se tx rf 0 hm_x hf_x) cV_X10_isAsked wg_1032 ⟨Nat.le_of_ble_eq_true rfl, Nat.le_of_ble_eq_true rfl⟩ hG hE hA hP hD hS hm_x hf_x rfl rfl hl.1 (As := [.int 0]) (rest := []) rfl (Nat.le_of_ble_eq_true rfl) dX10_broken_8 ⟨Nat.le_of_ble_eq_true rfl, Nat.le_of_ble_eq_true rfl⟩) hA hD hS (fun r1 L2 f3 H locs hp4 hP hD hS => ?_)
  obtain ⟨er5a, er5b, er5⟩ : L2 = _ ∧ f3 = _ ∧ r1 = 0 := hp4
  rw [er5a, er5b] at hP hD
  subst er5
  refine lv_if_ne (tgt := 17) hx hb dX10_broken_11 (by decide) (fun c6 => absurd c6 (by decide)) (fun c6 => ?_)
  refine lv_bipush (v := (-2)) hx hb dX10_broken_14 (by decide) ?_
  exact ret_i (ty := .int) hx hb hr hlocks (rfl) hP hD hS (Nat.le_of_ble_eq_true rfl) (Nat.le_of_ble_eq_true rfl) (rfl) dX10_broken_16

set_option maxHeartbeats 4000000 in
set_option maxRecDepth 100000 in
theorem k_X10_brokenStarts (l : Launch) (g : GG) (L : List Nat) (f : HP) (sz : Nat) (x t dr co ot dp pn ch fr nw kp tr ac se tx rf n0 n1 n2 n3 n4 n5 n6 n7 n8 : Nat) (w : Int32) (hm_x : x ∈ L) (hf_x : f x = .inr (9, [.ref t, .ref dr, .ref co, .ref ot, .ref dp, .ref pn, .ref ch, .ref fr, .ref nw, .ref kp, .ref tr, .ref ac, .ref se, .ref tx, .ref rf, .int 0, .int 0, .long 0])) (hm_nw : nw ∈ L) (hf_nw : f nw = .inr (3, [.int 0, .int 0, .int 0, .int 0, .int 0, .int 0, .int 0, .long 0, .long 0, .ref n0, .ref n1, .ref n2, .ref n3, .ref n4, .ref n5, .ref n6, .ref n7, .ref n8])) : MtI l g yX10_brokenStarts cX10_brokenStarts 2 (some .int) ({ frames := 1, cells := 0, slots := 0, locals := 21 }) [.ref x, .int w] L f sz (fun r _ => r = (-2)) := by
  refine MtI.of (by decide +kernel) (Nat.le_of_ble_eq_true rfl) ?_
  intro p e s m below meth c A hEn hP hD hS ls hl
  obtain ⟨hx, hb, hr, hml, hown, hlocks, hts, hG, hA, hE, hnm⟩ := hEn
  have hown : s.vm.findClass "RulerWord" = some m.cls := hown
  have hl : lv_has ls 2 [(0, .ref x), (1, .int w)] := hl
  refine lv_iload_n hx hb dX10_brokenStarts_0 rfl (lv_at hl 1 rfl) ?_
  refine lv_if_lt (tgt := 23) hx hb dX10_brokenStarts_1 (by decide) (fun c1 => ?_) (fun c1 => ?_)
  ·
    refine lv_bipush (v := (-2)) hx hb dX10_brokenStarts_23 (by decide) ?_
    exact ret_i (ty := .int) hx hb hr hlocks (rfl) hP hD hS (Nat.le_of_ble_eq_true rfl) (Nat.le_of_ble_eq_true rfl) (rfl) dX10_brokenStarts_25
  ·
    refine lv_iload_n hx hb dX10_brokenStarts_4 rfl (lv_at hl 1 rfl) ?_
    refine lv_iconst (v := 1) hx hb dX10_brokenStarts_5 (by decide) ?_
    refine lv_icmp_gt (tgt := 23) hx hb dX10_brokenStarts_6 (by decide) (fun c2 => ?_) (fun c2 => ?_)
    ·
      refine lv_bipush (v := (-2)) hx hb dX10_brokenStarts_23 (by decide) ?_
      exact ret_i (ty := .int) hx hb hr hlocks (rfl) hP hD hS (Nat.le_of_ble_eq_true rfl) (Nat.le_of_ble_eq_true rfl) (rfl) dX10_brokenStarts_25
    ·
      refine lv_aload_n hx hb dX10_brokenStarts_9 rfl (lv_at hl 0 rfl) ?_
      refine lv_aload_n hx hb dX10_brokenStarts_10 rfl (lv_at hl 0 rfl) ?_
      refine pl_get (v := .ref nw) hx hb hts (fun w h => mT (inX10 w h)) hown hG.1 hP hm_x hf_x rfl 8 (by decide) (hts _ (mT wg_483)) (fun _ h => h) rfl dX10_brokenStarts_11 ?_
      refine pl_getN (v := .int 0) hx hb hts (fun w h => mT (inX3 w h)) hown hG.1 hP hm_nw hf_nw rfl 1 (by decide) (hG.2.1 _ wn_339) (fun _ h => h) rfl dX10_brokenStarts_14 ?_
      refine call_i (run_V (rm := { frames := 0, cells := 0, slots := 0, locals := 0 }) hx hb hml hown hts (k_X10_isAsked l g _ _ _ x t dr co ot dp pn ch fr nw kp tr ac se tx rf 0 hm_x hf_x) cV_X10_isAsked wg_1032 ⟨Nat.le_of_ble_eq_true rfl, Nat.le_of_ble_eq_true rfl⟩ hG hE hA hP hD hS hm_x hf_x rfl rfl hl.1 (As := [.int 0]) (rest := []) rfl (Nat.le_of_ble_eq_true rfl) dX10_brokenStarts_17 ⟨Nat.le_of_ble_eq_true rfl, Nat.le_of_ble_eq_true rfl⟩) hA hD hS (fun r3 L4 f5 H locs hp6 hP hD hS => ?_)
      obtain ⟨er7a, er7b, er7⟩ : L4 = _ ∧ f5 = _ ∧ r3 = 0 := hp6
      rw [er7a, er7b] at hP hD
      subst er7
      refine lv_if_ne (tgt := 26) hx hb dX10_brokenStarts_20 (by decide) (fun c8 => absurd c8 (by decide)) (fun c8 => ?_)
      refine lv_bipush (v := (-2)) hx hb dX10_brokenStarts_23 (by decide) ?_
      exact ret_i (ty := .int) hx hb hr hlocks (rfl) hP hD hS (Nat.le_of_ble_eq_true rfl) (Nat.le_of_ble_eq_true rfl) (rfl) dX10_brokenStarts_25

set_option maxHeartbeats 4000000 in
set_option maxRecDepth 100000 in
theorem k_X10_canBreak (l : Launch) (g : GG) (L : List Nat) (f : HP) (sz : Nat) (x t dr co ot dp pn ch fr nw kp tr ac se tx rf : Nat) (w : Int32) (hm_x : x ∈ L) (hf_x : f x = .inr (9, [.ref t, .ref dr, .ref co, .ref ot, .ref dp, .ref pn, .ref ch, .ref fr, .ref nw, .ref kp, .ref tr, .ref ac, .ref se, .ref tx, .ref rf, .int 0, .int 0, .long 0])) : MtI l g yX10_canBreak cX10_canBreak 5 (some .int) ({ frames := 0, cells := 0, slots := 0, locals := 0 }) [.ref x, .int w] L f sz (fun r _ => r = (-2)) := by
  refine MtI.of (by decide +kernel) (Nat.le_of_ble_eq_true rfl) ?_
  intro p e s m below meth c A hEn hP hD hS ls hl
  obtain ⟨hx, hb, hr, hml, hown, hlocks, hts, hG, hA, hE, hnm⟩ := hEn
  have hown : s.vm.findClass "RulerWord" = some m.cls := hown
  have hl : lv_has ls 5 [(0, .ref x), (1, .int w)] := hl
  refine lv_iload_n hx hb dX10_canBreak_0 rfl (lv_at hl 1 rfl) ?_
  refine lv_if_lt (tgt := 27) hx hb dX10_canBreak_1 (by decide) (fun c1 => ?_) (fun c1 => ?_)
  ·
    refine lv_bipush (v := (-2)) hx hb dX10_canBreak_27 (by decide) ?_
    exact ret_i (ty := .int) hx hb hr hlocks (rfl) hP hD hS (Nat.le_of_ble_eq_true rfl) (Nat.le_of_ble_eq_true rfl) (rfl) dX10_canBreak_29
  ·
    refine lv_iload_n hx hb dX10_canBreak_4 rfl (lv_at hl 1 rfl) ?_
    refine lv_iconst (v := 1) hx hb dX10_canBreak_5 (by decide) ?_
    refine lv_icmp_gt (tgt := 27) hx hb dX10_canBreak_6 (by decide) (fun c2 => ?_) (fun c2 => ?_)
    ·
      refine lv_bipush (v := (-2)) hx hb dX10_canBreak_27 (by decide) ?_
      exact ret_i (ty := .int) hx hb hr hlocks (rfl) hP hD hS (Nat.le_of_ble_eq_true rfl) (Nat.le_of_ble_eq_true rfl) (rfl) dX10_canBreak_29
    ·
      refine lv_aload_n hx hb dX10_canBreak_9 rfl (lv_at hl 0 rfl) ?_
      refine pl_get (v := .int 0) hx hb hts (fun w h => mT (inX10 w h)) hown hG.1 hP hm_x hf_x rfl 15 (by decide) (hts _ (mT wg_490)) (fun _ h => h) rfl dX10_canBreak_10 ?_
      refine lv_if_eq (tgt := 27) hx hb dX10_canBreak_13 (by decide) (fun c3 => ?_) (fun c3 => absurd (by decide) c3)
      refine lv_bipush (v := (-2)) hx hb dX10_canBreak_27 (by decide) ?_
      exact ret_i (ty := .int) hx hb hr hlocks (rfl) hP hD hS (Nat.le_of_ble_eq_true rfl) (Nat.le_of_ble_eq_true rfl) (rfl) dX10_canBreak_29

set_option maxHeartbeats 4000000 in
set_option maxRecDepth 100000 in
theorem k_X10_brokenPlan (l : Launch) (g : GG) (L : List Nat) (f : HP) (sz : Nat) (x t dr co ot dp pn ch fr nw kp tr ac se tx rf n0 n1 n2 n3 n4 n5 n6 n7 n8 : Nat) (k : Int32) (hm_x : x ∈ L) (hf_x : f x = .inr (9, [.ref t, .ref dr, .ref co, .ref ot, .ref dp, .ref pn, .ref ch, .ref fr, .ref nw, .ref kp, .ref tr, .ref ac, .ref se, .ref tx, .ref rf, .int 0, .int 0, .long 0])) (hm_nw : nw ∈ L) (hf_nw : f nw = .inr (3, [.int 0, .int 0, .int 0, .int 0, .int 0, .int 0, .int 0, .long 0, .long 0, .ref n0, .ref n1, .ref n2, .ref n3, .ref n4, .ref n5, .ref n6, .ref n7, .ref n8])) : MtI l g yX10_brokenPlan cX10_brokenPlan 5 (some .int) ({ frames := 2, cells := 0, slots := 0, locals := 41 }) [.ref x, .int k] L f sz (fun r _ => r = (-2)) := by
  refine MtI.of (by decide +kernel) (Nat.le_of_ble_eq_true rfl) ?_
  intro p e s m below meth c A hEn hP hD hS ls hl
  obtain ⟨hx, hb, hr, hml, hown, hlocks, hts, hG, hA, hE, hnm⟩ := hEn
  have hown : s.vm.findClass "RulerWord" = some m.cls := hown
  have hl : lv_has ls 5 [(0, .ref x), (1, .int k)] := hl
  refine lv_aload_n hx hb dX10_brokenPlan_0 rfl (lv_at hl 0 rfl) ?_
  refine call_i (run_V (rm := { frames := 1, cells := 0, slots := 0, locals := 21 }) hx hb hml hown hts (k_X10_broken l g _ _ _ x t dr co ot dp pn ch fr nw kp tr ac se tx rf n0 n1 n2 n3 n4 n5 n6 n7 n8 hm_x hf_x hm_nw hf_nw) cV_X10_broken wg_1126 ⟨Nat.le_of_ble_eq_true rfl, Nat.le_of_ble_eq_true rfl⟩ hG hE hA hP hD hS hm_x hf_x rfl rfl hl.1 (As := []) (rest := []) rfl (Nat.le_of_ble_eq_true rfl) dX10_brokenPlan_1 ⟨Nat.le_of_ble_eq_true rfl, Nat.le_of_ble_eq_true rfl⟩) hA hD hS (fun r1 L2 f3 H locs hp4 hP hD hS => ?_)
  have er5 : r1 = (-2) := hp4
  subst er5
  refine lv_istore_n (lv' := [(2, .int (-2)), (0, .ref x), (1, .int k)]) hx hb dX10_brokenPlan_4 rfl hl (by decide) rfl (fun ls hl => ?_)
  refine lv_iload_n hx hb dX10_brokenPlan_5 rfl (lv_at hl 0 rfl) ?_
  refine lv_if_ge (tgt := 11) hx hb dX10_brokenPlan_6 (by decide) (fun c6 => absurd c6 (by decide)) (fun c6 => ?_)
  refine lv_iload_n hx hb dX10_brokenPlan_9 rfl (lv_at hl 0 rfl) ?_
  exact ret_i (ty := .int) hx hb hr hlocks (rfl) hP hD hS (Nat.le_of_ble_eq_true rfl) (Nat.le_of_ble_eq_true rfl) (rfl) dX10_brokenPlan_10

set_option maxHeartbeats 4000000 in
set_option maxRecDepth 100000 in
theorem k_X10_weakest (l : Launch) (g : GG) (L : List Nat) (f : HP) (sz : Nat) (x t dr co ot dp pn ch fr nw kp tr ac se tx rf : Nat) (hm_x : x ∈ L) (hf_x : f x = .inr (9, [.ref t, .ref dr, .ref co, .ref ot, .ref dp, .ref pn, .ref ch, .ref fr, .ref nw, .ref kp, .ref tr, .ref ac, .ref se, .ref tx, .ref rf, .int 0, .int 0, .long 0])) : MtI l g yX10_weakest cX10_weakest 4 (some .int) ({ frames := 0, cells := 0, slots := 0, locals := 0 }) [.ref x] L f sz (fun r _ => r = (-2)) := by
  refine MtI.of (by decide +kernel) (Nat.le_of_ble_eq_true rfl) ?_
  intro p e s m below meth c A hEn hP hD hS ls hl
  obtain ⟨hx, hb, hr, hml, hown, hlocks, hts, hG, hA, hE, hnm⟩ := hEn
  have hown : s.vm.findClass "RulerWord" = some m.cls := hown
  have hl : lv_has ls 4 [(0, .ref x)] := hl
  refine lv_aload_n hx hb dX10_weakest_0 rfl (lv_at hl 0 rfl) ?_
  refine pl_get (v := .int 0) hx hb hts (fun w h => mT (inX10 w h)) hown hG.1 hP hm_x hf_x rfl 15 (by decide) (hts _ (mT wg_490)) (fun _ h => h) rfl dX10_weakest_1 ?_
  refine lv_if_ne (tgt := 10) hx hb dX10_weakest_4 (by decide) (fun c1 => absurd c1 (by decide)) (fun c1 => ?_)
  refine lv_bipush (v := (-2)) hx hb dX10_weakest_7 (by decide) ?_
  exact ret_i (ty := .int) hx hb hr hlocks (rfl) hP hD hS (Nat.le_of_ble_eq_true rfl) (Nat.le_of_ble_eq_true rfl) (rfl) dX10_weakest_9

set_option maxHeartbeats 4000000 in
set_option maxRecDepth 100000 in
theorem k_X10_ruled (l : Launch) (g : GG) (L : List Nat) (f : HP) (sz : Nat) (x t dr co ot dp pn ch fr nw kp tr ac se tx rf : Nat) (i : Int32) (w : Int32) (hm_x : x ∈ L) (hf_x : f x = .inr (9, [.ref t, .ref dr, .ref co, .ref ot, .ref dp, .ref pn, .ref ch, .ref fr, .ref nw, .ref kp, .ref tr, .ref ac, .ref se, .ref tx, .ref rf, .int 0, .int 0, .long 0])) : MtI l g yX10_ruled cX10_ruled 5 (some .int) ({ frames := 1, cells := 0, slots := 0, locals := 21 }) [.ref x, .int i, .int w] L f sz (fun r _ => r = (-1)) := by
  refine MtI.of (by decide +kernel) (Nat.le_of_ble_eq_true rfl) ?_
  intro p e s m below meth c A hEn hP hD hS ls hl
  obtain ⟨hx, hb, hr, hml, hown, hlocks, hts, hG, hA, hE, hnm⟩ := hEn
  have hown : s.vm.findClass "RulerWord" = some m.cls := hown
  have hl : lv_has ls 5 [(0, .ref x), (1, .int i), (2, .int w)] := hl
  refine lv_aload_n hx hb dX10_ruled_0 rfl (lv_at hl 0 rfl) ?_
  refine lv_iload_n hx hb dX10_ruled_1 rfl (lv_at hl 1 rfl) ?_
  refine call_i (run_V (rm := { frames := 0, cells := 0, slots := 0, locals := 0 }) hx hb hml hown hts (k_X10_isPeer l g _ _ _ x t dr co ot dp pn ch fr nw kp tr ac se tx rf i hm_x hf_x) cV_X10_isPeer wg_897 ⟨Nat.le_of_ble_eq_true rfl, Nat.le_of_ble_eq_true rfl⟩ hG hE hA hP hD hS hm_x hf_x rfl rfl hl.1 (As := [.int i]) (rest := []) rfl (Nat.le_of_ble_eq_true rfl) dX10_ruled_2 ⟨Nat.le_of_ble_eq_true rfl, Nat.le_of_ble_eq_true rfl⟩) hA hD hS (fun r1 L2 f3 H locs hp4 hP hD hS => ?_)
  obtain ⟨er5a, er5b, er5⟩ : L2 = _ ∧ f3 = _ ∧ r1 = 0 := hp4
  rw [er5a, er5b] at hP hD
  subst er5
  refine lv_if_eq (tgt := 17) hx hb dX10_ruled_5 (by decide) (fun c6 => ?_) (fun c6 => absurd (by decide) c6)
  refine lv_iconst (v := (-1)) hx hb dX10_ruled_17 (by decide) ?_
  exact ret_i (ty := .int) hx hb hr hlocks (rfl) hP hD hS (Nat.le_of_ble_eq_true rfl) (Nat.le_of_ble_eq_true rfl) (rfl) dX10_ruled_18

set_option maxHeartbeats 4000000 in
set_option maxRecDepth 100000 in
theorem k_X10_held (l : Launch) (g : GG) (L : List Nat) (f : HP) (sz : Nat) (x t dr co ot dp pn ch fr nw kp tr ac se tx rf n0 n1 n2 n3 n4 n5 n6 n7 n8 : Nat) (b : Int32) (i : Int32) (hm_x : x ∈ L) (hf_x : f x = .inr (9, [.ref t, .ref dr, .ref co, .ref ot, .ref dp, .ref pn, .ref ch, .ref fr, .ref nw, .ref kp, .ref tr, .ref ac, .ref se, .ref tx, .ref rf, .int 0, .int 0, .long 0])) (hm_nw : nw ∈ L) (hf_nw : f nw = .inr (3, [.int 0, .int 0, .int 0, .int 0, .int 0, .int 0, .int 0, .long 0, .long 0, .ref n0, .ref n1, .ref n2, .ref n3, .ref n4, .ref n5, .ref n6, .ref n7, .ref n8])) : MtI l g yX10_held cX10_held 3 (some .int) ({ frames := 1, cells := 0, slots := 0, locals := 21 }) [.ref x, .int b, .int i] L f sz (fun r _ => r = (-2)) := by
  refine MtI.of (by decide +kernel) (Nat.le_of_ble_eq_true rfl) ?_
  intro p e s m below meth c A hEn hP hD hS ls hl
  obtain ⟨hx, hb, hr, hml, hown, hlocks, hts, hG, hA, hE, hnm⟩ := hEn
  have hown : s.vm.findClass "RulerWord" = some m.cls := hown
  have hl : lv_has ls 3 [(0, .ref x), (1, .int b), (2, .int i)] := hl
  refine lv_aload_n hx hb dX10_held_0 rfl (lv_at hl 0 rfl) ?_
  refine lv_aload_n hx hb dX10_held_1 rfl (lv_at hl 0 rfl) ?_
  refine pl_get (v := .ref nw) hx hb hts (fun w h => mT (inX10 w h)) hown hG.1 hP hm_x hf_x rfl 8 (by decide) (hts _ (mT wg_483)) (fun _ h => h) rfl dX10_held_2 ?_
  refine pl_getN (v := .int 0) hx hb hts (fun w h => mT (inX3 w h)) hown hG.1 hP hm_nw hf_nw rfl 1 (by decide) (hG.2.1 _ wn_339) (fun _ h => h) rfl dX10_held_5 ?_
  refine call_i (run_V (rm := { frames := 0, cells := 0, slots := 0, locals := 0 }) hx hb hml hown hts (k_X10_isAsked l g _ _ _ x t dr co ot dp pn ch fr nw kp tr ac se tx rf 0 hm_x hf_x) cV_X10_isAsked wg_1032 ⟨Nat.le_of_ble_eq_true rfl, Nat.le_of_ble_eq_true rfl⟩ hG hE hA hP hD hS hm_x hf_x rfl rfl hl.1 (As := [.int 0]) (rest := []) rfl (Nat.le_of_ble_eq_true rfl) dX10_held_8 ⟨Nat.le_of_ble_eq_true rfl, Nat.le_of_ble_eq_true rfl⟩) hA hD hS (fun r1 L2 f3 H locs hp4 hP hD hS => ?_)
  obtain ⟨er5a, er5b, er5⟩ : L2 = _ ∧ f3 = _ ∧ r1 = 0 := hp4
  rw [er5a, er5b] at hP hD
  subst er5
  refine lv_if_ne (tgt := 17) hx hb dX10_held_11 (by decide) (fun c6 => absurd c6 (by decide)) (fun c6 => ?_)
  refine lv_bipush (v := (-2)) hx hb dX10_held_14 (by decide) ?_
  exact ret_i (ty := .int) hx hb hr hlocks (rfl) hP hD hS (Nat.le_of_ble_eq_true rfl) (Nat.le_of_ble_eq_true rfl) (rfl) dX10_held_16

set_option maxHeartbeats 4000000 in
set_option maxRecDepth 100000 in
theorem k_X10_needed (l : Launch) (g : GG) (L : List Nat) (f : HP) (sz : Nat) (x t dr co ot dp pn ch fr nw kp tr ac se tx rf : Nat) (hm_x : x ∈ L) (hf_x : f x = .inr (9, [.ref t, .ref dr, .ref co, .ref ot, .ref dp, .ref pn, .ref ch, .ref fr, .ref nw, .ref kp, .ref tr, .ref ac, .ref se, .ref tx, .ref rf, .int 0, .int 0, .long 0])) : MtI l g yX10_needed cX10_needed 2 (some .int) ({ frames := 0, cells := 0, slots := 0, locals := 0 }) [.ref x] L f sz (fun r _ => r = (-1)) := by
  refine MtI.of (by decide +kernel) (Nat.le_of_ble_eq_true rfl) ?_
  intro p e s m below meth c A hEn hP hD hS ls hl
  obtain ⟨hx, hb, hr, hml, hown, hlocks, hts, hG, hA, hE, hnm⟩ := hEn
  have hown : s.vm.findClass "RulerWord" = some m.cls := hown
  have hl : lv_has ls 2 [(0, .ref x)] := hl
  refine lv_iconst (v := 1) hx hb dX10_needed_0 (by decide) ?_
  refine lv_istore_n (lv' := [(1, .int 1), (0, .ref x)]) hx hb dX10_needed_1 rfl hl (by decide) rfl (fun ls hl => ?_)
  refine lv_aload_n hx hb dX10_needed_2 rfl (lv_at hl 1 rfl) ?_
  refine pl_get (v := .int 0) hx hb hts (fun w h => mT (inX10 w h)) hown hG.1 hP hm_x hf_x rfl 15 (by decide) (hts _ (mT wg_490)) (fun _ h => h) rfl dX10_needed_3 ?_
  refine lv_if_eq (tgt := 81) hx hb dX10_needed_6 (by decide) (fun c1 => ?_) (fun c1 => absurd (by decide) c1)
  refine lv_iconst (v := (-1)) hx hb dX10_needed_81 (by decide) ?_
  exact ret_i (ty := .int) hx hb hr hlocks (rfl) hP hD hS (Nat.le_of_ble_eq_true rfl) (Nat.le_of_ble_eq_true rfl) (rfl) dX10_needed_82

set_option maxHeartbeats 4000000 in
set_option maxRecDepth 100000 in
theorem k_X10_asOthers (l : Launch) (g : GG) (L : List Nat) (f : HP) (sz : Nat) (x t dr co ot dp pn ch fr nw kp tr ac se tx rf : Nat) (w : Int32) (hm_x : x ∈ L) (hf_x : f x = .inr (9, [.ref t, .ref dr, .ref co, .ref ot, .ref dp, .ref pn, .ref ch, .ref fr, .ref nw, .ref kp, .ref tr, .ref ac, .ref se, .ref tx, .ref rf, .int 0, .int 0, .long 0])) : MtI l g yX10_asOthers cX10_asOthers 2 (some .int) ({ frames := 0, cells := 0, slots := 0, locals := 0 }) [.ref x, .int w] L f sz (fun r _ => r = (-2)) := by
  refine MtI.of (by decide +kernel) (Nat.le_of_ble_eq_true rfl) ?_
  intro p e s m below meth c A hEn hP hD hS ls hl
  obtain ⟨hx, hb, hr, hml, hown, hlocks, hts, hG, hA, hE, hnm⟩ := hEn
  have hown : s.vm.findClass "RulerWord" = some m.cls := hown
  have hl : lv_has ls 2 [(0, .ref x), (1, .int w)] := hl
  refine lv_aload_n hx hb dX10_asOthers_0 rfl (lv_at hl 0 rfl) ?_
  refine pl_get (v := .int 0) hx hb hts (fun w h => mT (inX10 w h)) hown hG.1 hP hm_x hf_x rfl 15 (by decide) (hts _ (mT wg_490)) (fun _ h => h) rfl dX10_asOthers_1 ?_
  refine lv_if_eq (tgt := 16) hx hb dX10_asOthers_4 (by decide) (fun c1 => ?_) (fun c1 => absurd (by decide) c1)
  refine lv_bipush (v := (-2)) hx hb dX10_asOthers_16 (by decide) ?_
  exact ret_i (ty := .int) hx hb hr hlocks (rfl) hP hD hS (Nat.le_of_ble_eq_true rfl) (Nat.le_of_ble_eq_true rfl) (rfl) dX10_asOthers_18

set_option maxHeartbeats 4000000 in
set_option maxRecDepth 100000 in
theorem k_X10_byChance (l : Launch) (g : GG) (L : List Nat) (f : HP) (sz : Nat) (x t dr co ot dp pn ch fr nw kp tr ac se tx rf : Nat) (w : Int32) (s0 : Int64) (h0 : Int32) (hm_x : x ∈ L) (hf_x : f x = .inr (9, [.ref t, .ref dr, .ref co, .ref ot, .ref dp, .ref pn, .ref ch, .ref fr, .ref nw, .ref kp, .ref tr, .ref ac, .ref se, .ref tx, .ref rf, .int 0, .int 0, .long 0])) : MtI l g yX10_byChance cX10_byChance 10 (some .int) ({ frames := 0, cells := 0, slots := 0, locals := 0 }) [.ref x, .int w, .long s0, .int h0] L f sz (fun r _ => r = (-2)) := by
  refine MtI.of (by decide +kernel) (Nat.le_of_ble_eq_true rfl) ?_
  intro p e s m below meth c A hEn hP hD hS ls hl
  obtain ⟨hx, hb, hr, hml, hown, hlocks, hts, hG, hA, hE, hnm⟩ := hEn
  have hown : s.vm.findClass "RulerWord" = some m.cls := hown
  have hl : lv_has ls 10 [(0, .ref x), (1, .int w), (2, .long s0), (4, .int h0)] := hl
  refine lv_aload_n hx hb dX10_byChance_0 rfl (lv_at hl 0 rfl) ?_
  refine pl_get (v := .int 0) hx hb hts (fun w h => mT (inX10 w h)) hown hG.1 hP hm_x hf_x rfl 15 (by decide) (hts _ (mT wg_490)) (fun _ h => h) rfl dX10_byChance_1 ?_
  refine lv_if_eq (tgt := 30) hx hb dX10_byChance_4 (by decide) (fun c1 => ?_) (fun c1 => absurd (by decide) c1)
  refine lv_bipush (v := (-2)) hx hb dX10_byChance_30 (by decide) ?_
  exact ret_i (ty := .int) hx hb hr hlocks (rfl) hP hD hS (Nat.le_of_ble_eq_true rfl) (Nat.le_of_ble_eq_true rfl) (rfl) dX10_byChance_32

set_option maxHeartbeats 4000000 in
set_option maxRecDepth 100000 in
theorem k_X10_shown (l : Launch) (g : GG) (L : List Nat) (f : HP) (sz : Nat) (x t dr co ot dp pn ch fr nw kp tr ac se tx rf : Nat) (p0 : Int32) (k : Int32) (hm_x : x ∈ L) (hf_x : f x = .inr (9, [.ref t, .ref dr, .ref co, .ref ot, .ref dp, .ref pn, .ref ch, .ref fr, .ref nw, .ref kp, .ref tr, .ref ac, .ref se, .ref tx, .ref rf, .int 0, .int 0, .long 0])) : MtI l g yX10_shown cX10_shown 5 (some .int) ({ frames := 2, cells := 0, slots := 0, locals := 41 }) [.ref x, .int p0, .int k] L f sz (fun r _ => r = (-1)) := by
  refine MtI.of (by decide +kernel) (Nat.le_of_ble_eq_true rfl) ?_
  intro p e s m below meth c A hEn hP hD hS ls hl
  obtain ⟨hx, hb, hr, hml, hown, hlocks, hts, hG, hA, hE, hnm⟩ := hEn
  have hown : s.vm.findClass "RulerWord" = some m.cls := hown
  have hl : lv_has ls 5 [(0, .ref x), (1, .int p0), (2, .int k)] := hl
  refine lv_aload_n hx hb dX10_shown_0 rfl (lv_at hl 0 rfl) ?_
  refine lv_iload_n hx hb dX10_shown_1 rfl (lv_at hl 1 rfl) ?_
  refine call_i (run_V (rm := { frames := 1, cells := 0, slots := 0, locals := 20 }) hx hb hml hown hts (k_X10_isOver l g _ _ _ x t dr co ot dp pn ch fr nw kp tr ac se tx rf p0 hm_x hf_x) cV_X10_isOver wg_952 ⟨Nat.le_of_ble_eq_true rfl, Nat.le_of_ble_eq_true rfl⟩ hG hE hA hP hD hS hm_x hf_x rfl rfl hl.1 (As := [.int p0]) (rest := []) rfl (Nat.le_of_ble_eq_true rfl) dX10_shown_2 ⟨Nat.le_of_ble_eq_true rfl, Nat.le_of_ble_eq_true rfl⟩) hA hD hS (fun r1 L2 f3 H locs hp4 hP hD hS => ?_)
  obtain ⟨er5a, er5b, er5⟩ : L2 = _ ∧ f3 = _ ∧ r1 = 0 := hp4
  rw [er5a, er5b] at hP hD
  subst er5
  refine lv_if_ne (tgt := 10) hx hb dX10_shown_5 (by decide) (fun c6 => absurd c6 (by decide)) (fun c6 => ?_)
  refine lv_iconst (v := (-1)) hx hb dX10_shown_8 (by decide) ?_
  exact ret_i (ty := .int) hx hb hr hlocks (rfl) hP hD hS (Nat.le_of_ble_eq_true rfl) (Nat.le_of_ble_eq_true rfl) (rfl) dX10_shown_9

set_option maxHeartbeats 4000000 in
set_option maxRecDepth 100000 in
theorem k_X10_undo (l : Launch) (g : GG) (L : List Nat) (f : HP) (sz : Nat) (x t dr co ot dp pn ch fr nw kp tr ac se tx rf ah : Nat) (hm_x : x ∈ L) (hf_x : f x = .inr (9, [.ref t, .ref dr, .ref co, .ref ot, .ref dp, .ref pn, .ref ch, .ref fr, .ref nw, .ref kp, .ref tr, .ref ac, .ref se, .ref tx, .ref rf, .int 0, .int 0, .long 0])) (hm_ac : ac ∈ L) (hf_ac : f ac = .inr (0, [.ref ah, .int 0, .int 0])) : MtI l g yX10_undo cX10_undo 1 (some .int) ({ frames := 1, cells := 0, slots := 0, locals := 21 }) [.ref x] L f sz (fun r _ => r = (-1)) := by
  refine MtI.of (by decide +kernel) (Nat.le_of_ble_eq_true rfl) ?_
  intro p e s m below meth c A hEn hP hD hS ls hl
  obtain ⟨hx, hb, hr, hml, hown, hlocks, hts, hG, hA, hE, hnm⟩ := hEn
  have hown : s.vm.findClass "RulerWord" = some m.cls := hown
  have hl : lv_has ls 1 [(0, .ref x)] := hl
  refine lv_aload_n hx hb dX10_undo_0 rfl (lv_at hl 0 rfl) ?_
  refine pl_get (v := .ref ac) hx hb hts (fun w h => mT (inX10 w h)) hown hG.1 hP hm_x hf_x rfl 11 (by decide) (hts _ (mT wg_486)) (fun _ h => h) rfl dX10_undo_1 ?_
  refine lv_aload_n hx hb dX10_undo_4 rfl (lv_at hl 0 rfl) ?_
  refine pl_get (v := .ref nw) hx hb hts (fun w h => mT (inX10 w h)) hown hG.1 hP hm_x hf_x rfl 8 (by decide) (hts _ (mT wg_483)) (fun _ h => h) rfl dX10_undo_5 ?_
  refine call_i (run_VN (rm := { frames := 0, cells := 0, slots := 0, locals := 0 }) hx hb hml hown hts (k_X0_takeBack l g _ _ _ ac ah nw hm_ac hf_ac) cV_X0_takeBack wn_1210 ⟨Nat.le_of_ble_eq_true rfl, Nat.le_of_ble_eq_true rfl⟩ hG hE hA hP hD hS hm_ac hf_ac rfl rfl hl.1 (As := [.ref nw]) (rest := []) rfl (Nat.le_of_ble_eq_true rfl) dX10_undo_8 ⟨Nat.le_of_ble_eq_true rfl, Nat.le_of_ble_eq_true rfl⟩) hA hD hS (fun r1 L2 f3 H locs hp4 hP hD hS => ?_)
  obtain ⟨er5a, er5b, er5⟩ : L2 = _ ∧ f3 = _ ∧ r1 = 0 := hp4
  rw [er5a, er5b] at hP hD
  subst er5
  refine lv_if_eq (tgt := 24) hx hb dX10_undo_11 (by decide) (fun c6 => ?_) (fun c6 => absurd (by decide) c6)
  refine lv_iconst (v := (-1)) hx hb dX10_undo_24 (by decide) ?_
  exact ret_i (ty := .int) hx hb hr hlocks (rfl) hP hD hS (Nat.le_of_ble_eq_true rfl) (Nat.le_of_ble_eq_true rfl) (rfl) dX10_undo_25

set_option maxHeartbeats 4000000 in
set_option maxRecDepth 100000 in
theorem k_X10_image (l : Launch) (g : GG) (L : List Nat) (f : HP) (sz : Nat) (x t dr co ot dp pn ch fr nw kp tr ac se tx rf : Nat) (hm_x : x ∈ L) (hf_x : f x = .inr (9, [.ref t, .ref dr, .ref co, .ref ot, .ref dp, .ref pn, .ref ch, .ref fr, .ref nw, .ref kp, .ref tr, .ref ac, .ref se, .ref tx, .ref rf, .int 0, .int 0, .long 0])) : MtI l g yX10_image cX10_image 1 (some .int) ({ frames := 0, cells := 0, slots := 0, locals := 0 }) [.ref x] L f sz (fun r _ => r = (-1)) := by
  refine MtI.of (by decide +kernel) (Nat.le_of_ble_eq_true rfl) ?_
  intro p e s m below meth c A hEn hP hD hS ls hl
  obtain ⟨hx, hb, hr, hml, hown, hlocks, hts, hG, hA, hE, hnm⟩ := hEn
  have hown : s.vm.findClass "RulerWord" = some m.cls := hown
  have hl : lv_has ls 1 [(0, .ref x)] := hl
  refine lv_aload_n hx hb dX10_image_0 rfl (lv_at hl 0 rfl) ?_
  refine pl_get (v := .int 0) hx hb hts (fun w h => mT (inX10 w h)) hown hG.1 hP hm_x hf_x rfl 15 (by decide) (hts _ (mT wg_490)) (fun _ h => h) rfl dX10_image_1 ?_
  refine lv_if_ne (tgt := 9) hx hb dX10_image_4 (by decide) (fun c1 => absurd c1 (by decide)) (fun c1 => ?_)
  refine lv_iconst (v := (-1)) hx hb dX10_image_7 (by decide) ?_
  exact ret_i (ty := .int) hx hb hr hlocks (rfl) hP hD hS (Nat.le_of_ble_eq_true rfl) (Nat.le_of_ble_eq_true rfl) (rfl) dX10_image_8

set_option maxHeartbeats 4000000 in
set_option maxRecDepth 100000 in
theorem k_X10_back (l : Launch) (g : GG) (L : List Nat) (f : HP) (sz : Nat) (x t dr co ot dp pn ch fr nw kp tr ac se tx rf : Nat) (hm_x : x ∈ L) (hf_x : f x = .inr (9, [.ref t, .ref dr, .ref co, .ref ot, .ref dp, .ref pn, .ref ch, .ref fr, .ref nw, .ref kp, .ref tr, .ref ac, .ref se, .ref tx, .ref rf, .int 0, .int 0, .long 0])) : MtI l g yX10_back cX10_back 1 (some .int) ({ frames := 0, cells := 0, slots := 0, locals := 0 }) [.ref x] L f sz (fun r _ => r = (-1)) := by
  refine MtI.of (by decide +kernel) (Nat.le_of_ble_eq_true rfl) ?_
  intro p e s m below meth c A hEn hP hD hS ls hl
  obtain ⟨hx, hb, hr, hml, hown, hlocks, hts, hG, hA, hE, hnm⟩ := hEn
  have hown : s.vm.findClass "RulerWord" = some m.cls := hown
  have hl : lv_has ls 1 [(0, .ref x)] := hl
  refine lv_aload_n hx hb dX10_back_0 rfl (lv_at hl 0 rfl) ?_
  refine pl_get (v := .int 0) hx hb hts (fun w h => mT (inX10 w h)) hown hG.1 hP hm_x hf_x rfl 16 (by decide) (hts _ (mT wg_491)) (fun _ h => h) rfl dX10_back_1 ?_
  refine lv_if_ne (tgt := 9) hx hb dX10_back_4 (by decide) (fun c1 => absurd c1 (by decide)) (fun c1 => ?_)
  refine lv_iconst (v := (-1)) hx hb dX10_back_7 (by decide) ?_
  exact ret_i (ty := .int) hx hb hr hlocks (rfl) hP hD hS (Nat.le_of_ble_eq_true rfl) (Nat.le_of_ble_eq_true rfl) (rfl) dX10_back_8

set_option maxHeartbeats 4000000 in
set_option maxRecDepth 100000 in
theorem k_X10_status (l : Launch) (g : GG) (L : List Nat) (f : HP) (sz : Nat) (x t dr co ot dp pn ch fr nw kp tr ac se tx rf : Nat) (w : Int32) (hm_x : x ∈ L) (hf_x : f x = .inr (9, [.ref t, .ref dr, .ref co, .ref ot, .ref dp, .ref pn, .ref ch, .ref fr, .ref nw, .ref kp, .ref tr, .ref ac, .ref se, .ref tx, .ref rf, .int 0, .int 0, .long 0])) (hm_rf : rf ∈ L) (hf_rf : f rf = .inl (g.2.1 0, 5, .inl (fun _ => 0))) : MtI l g yX10_status cX10_status 2 (some .int) ({ frames := 0, cells := 0, slots := 0, locals := 0 }) [.ref x, .int w] L f sz (fun r _ => r = statV w) := by
  refine MtI.of (by decide +kernel) (Nat.le_of_ble_eq_true rfl) ?_
  intro p e s m below meth c A hEn hP hD hS ls hl
  obtain ⟨hx, hb, hr, hml, hown, hlocks, hts, hG, hA, hE, hnm⟩ := hEn
  have hown : s.vm.findClass "RulerWord" = some m.cls := hown
  have hl : lv_has ls 2 [(0, .ref x), (1, .int w)] := hl
  refine lv_iload_n hx hb dX10_status_0 rfl (lv_at hl 1 rfl) ?_
  refine lv_if_lt (tgt := 13) hx hb dX10_status_1 (by decide) (fun c1 => ?_) (fun c1 => ?_)
  ·
    refine lv_iconst (v := (-1)) hx hb dX10_status_13 (by decide) ?_
    refine lv_goto (tgt := 23) hx hb dX10_status_14 (by decide) ?_
    exact ret_i (ty := .int) hx hb hr hlocks (rfl) hP hD hS (Nat.le_of_ble_eq_true rfl) (Nat.le_of_ble_eq_true rfl) (by simp [statV, c1]) dX10_status_23
  ·
    refine lv_iload_n hx hb dX10_status_4 rfl (lv_at hl 1 rfl) ?_
    refine lv_aload_n hx hb dX10_status_5 rfl (lv_at hl 0 rfl) ?_
    refine pl_get (v := .ref rf) hx hb hts (fun w h => mT (inX10 w h)) hown hG.1 hP hm_x hf_x rfl 14 (by decide) (hts _ (mT wg_489)) (fun _ h => h) rfl dX10_status_6 ?_
    refine pl_alen (v := 5) hx hb hG.1 hP hm_rf 0 hf_rf rfl (by decide) dX10_status_9 ?_
    refine lv_icmp_lt (tgt := 17) hx hb dX10_status_10 (by decide) (fun c2 => ?_) (fun c2 => ?_)
    ·
      refine lv_aload_n hx hb dX10_status_17 rfl (lv_at hl 0 rfl) ?_
      refine pl_get (v := .ref rf) hx hb hts (fun w h => mT (inX10 w h)) hown hG.1 hP hm_x hf_x rfl 14 (by decide) (hts _ (mT wg_489)) (fun _ h => h) rfl dX10_status_18 ?_
      refine lv_iload_n hx hb dX10_status_21 rfl (lv_at hl 1 rfl) ?_
      refine pl_iald hx hb hG.1 hP hm_rf 0 hf_rf rfl (in_of2 (k := 5) (by decide) c1 c2) dX10_status_22 ?_
      refine lv_topi (fun x3 ex3 => ?_)
      obtain rfl : x3 = 0 := ex3.trans (rfl)
      exact ret_i (ty := .int) hx hb hr hlocks (rfl) hP hD hS (Nat.le_of_ble_eq_true rfl) (Nat.le_of_ble_eq_true rfl) (by simp [statV, c1, c2]) dX10_status_23
    ·
      refine lv_iconst (v := (-1)) hx hb dX10_status_13 (by decide) ?_
      refine lv_goto (tgt := 23) hx hb dX10_status_14 (by decide) ?_
      exact ret_i (ty := .int) hx hb hr hlocks (rfl) hP hD hS (Nat.le_of_ble_eq_true rfl) (Nat.le_of_ble_eq_true rfl) (by simp [statV, c1, c2]) dX10_status_23

set_option maxHeartbeats 4000000 in
set_option maxRecDepth 100000 in
theorem k_X10_most (l : Launch) (g : GG) (L : List Nat) (f : HP) (sz : Nat) (x t dr co ot dp pn ch fr nw kp tr ac se tx rf : Nat) (w : Int32) (hm_x : x ∈ L) (hf_x : f x = .inr (9, [.ref t, .ref dr, .ref co, .ref ot, .ref dp, .ref pn, .ref ch, .ref fr, .ref nw, .ref kp, .ref tr, .ref ac, .ref se, .ref tx, .ref rf, .int 0, .int 0, .long 0])) : MtI l g yX10_most cX10_most 2 (some .int) ({ frames := 0, cells := 0, slots := 0, locals := 0 }) [.ref x, .int w] L f sz (fun r _ => r = (-1)) := by
  refine MtI.of (by decide +kernel) (Nat.le_of_ble_eq_true rfl) ?_
  intro p e s m below meth c A hEn hP hD hS ls hl
  obtain ⟨hx, hb, hr, hml, hown, hlocks, hts, hG, hA, hE, hnm⟩ := hEn
  have hown : s.vm.findClass "RulerWord" = some m.cls := hown
  have hl : lv_has ls 2 [(0, .ref x), (1, .int w)] := hl
  refine lv_aload_n hx hb dX10_most_0 rfl (lv_at hl 0 rfl) ?_
  refine pl_get (v := .int 0) hx hb hts (fun w h => mT (inX10 w h)) hown hG.1 hP hm_x hf_x rfl 15 (by decide) (hts _ (mT wg_490)) (fun _ h => h) rfl dX10_most_1 ?_
  refine lv_if_ne (tgt := 9) hx hb dX10_most_4 (by decide) (fun c1 => absurd c1 (by decide)) (fun c1 => ?_)
  refine lv_iconst (v := (-1)) hx hb dX10_most_7 (by decide) ?_
  exact ret_i (ty := .int) hx hb hr hlocks (rfl) hP hD hS (Nat.le_of_ble_eq_true rfl) (Nat.le_of_ble_eq_true rfl) (rfl) dX10_most_8

set_option maxHeartbeats 4000000 in
set_option maxRecDepth 100000 in
theorem k_X10_count (l : Launch) (g : GG) (L : List Nat) (f : HP) (sz : Nat) (x t dr co ot dp pn ch fr nw kp tr ac se tx rf tb ah n0 n1 n2 n3 n4 n5 n6 n7 n8 : Nat) (w : Int32) (hm_x : x ∈ L) (hf_x : f x = .inr (9, [.ref t, .ref dr, .ref co, .ref ot, .ref dp, .ref pn, .ref ch, .ref fr, .ref nw, .ref kp, .ref tr, .ref ac, .ref se, .ref tx, .ref rf, .int 0, .int 0, .long 0])) (hm_t : t ∈ L) (hf_t : f t = .inr (8, [.ref tb, .int 0, .int 0, .int 0, .int 0])) (hm_ac : ac ∈ L) (hf_ac : f ac = .inr (0, [.ref ah, .int 0, .int 0])) (hm_nw : nw ∈ L) (hf_nw : f nw = .inr (3, [.int 0, .int 0, .int 0, .int 0, .int 0, .int 0, .int 0, .long 0, .long 0, .ref n0, .ref n1, .ref n2, .ref n3, .ref n4, .ref n5, .ref n6, .ref n7, .ref n8])) : MtI l g yX10_count cX10_count 2 (some .int) ({ frames := 0, cells := 0, slots := 0, locals := 0 }) [.ref x, .int w] L f sz (fun r _ => r = cntV w) := by
  refine MtI.of (by decide +kernel) (Nat.le_of_ble_eq_true rfl) ?_
  intro p e s m below meth c A hEn hP hD hS ls hl
  obtain ⟨hx, hb, hr, hml, hown, hlocks, hts, hG, hA, hE, hnm⟩ := hEn
  have hown : s.vm.findClass "RulerWord" = some m.cls := hown
  have hl : lv_has ls 2 [(0, .ref x), (1, .int w)] := hl
  refine lv_iload_n hx hb dX10_count_0 rfl (lv_at hl 1 rfl) ?_
  by_cases c1 : w = 0
  ·
    subst c1
    refine lv_tableIn (off := 27) (tgt := 28) hx hb dX10_count_1 (by decide) (by decide) (by decide) (by decide) ?_
    refine lv_aload_n hx hb dX10_count_28 rfl (lv_at hl 0 rfl) ?_
    refine pl_get (v := .ref t) hx hb hts (fun w h => mT (inX10 w h)) hown hG.1 hP hm_x hf_x rfl 0 (by decide) (hts _ (mT wg_475)) (fun _ h => h) rfl dX10_count_29 ?_
    refine pl_getN (v := .int 0) hx hb hts (fun w h => mT (inX8 w h)) hown hG.1 hP hm_t hf_t rfl 1 (by decide) (hG.2.1 _ wn_197) (fun _ h => h) rfl dX10_count_32 ?_
    exact ret_i (ty := .int) hx hb hr hlocks (rfl) hP hD hS (Nat.le_of_ble_eq_true rfl) (Nat.le_of_ble_eq_true rfl) (by simp [cntV]) dX10_count_35
  by_cases c2 : w = 1
  ·
    subst c2
    refine lv_tableIn (off := 35) (tgt := 36) hx hb dX10_count_1 (by decide) (by decide) (by decide) (by decide) ?_
    refine lv_aload_n hx hb dX10_count_36 rfl (lv_at hl 0 rfl) ?_
    refine pl_get (v := .ref ac) hx hb hts (fun w h => mT (inX10 w h)) hown hG.1 hP hm_x hf_x rfl 11 (by decide) (hts _ (mT wg_486)) (fun _ h => h) rfl dX10_count_37 ?_
    refine pl_getN (v := .int 0) hx hb hts (fun w h => mT (inX0 w h)) hown hG.1 hP hm_ac hf_ac rfl 2 (by decide) (hG.2.1 _ wn_416) (fun _ h => h) rfl dX10_count_40 ?_
    exact ret_i (ty := .int) hx hb hr hlocks (rfl) hP hD hS (Nat.le_of_ble_eq_true rfl) (Nat.le_of_ble_eq_true rfl) (by simp [cntV]) dX10_count_43
  by_cases c3 : w = 2
  ·
    subst c3
    refine lv_tableIn (off := 43) (tgt := 44) hx hb dX10_count_1 (by decide) (by decide) (by decide) (by decide) ?_
    refine lv_aload_n hx hb dX10_count_44 rfl (lv_at hl 0 rfl) ?_
    refine pl_get (v := .ref nw) hx hb hts (fun w h => mT (inX10 w h)) hown hG.1 hP hm_x hf_x rfl 8 (by decide) (hts _ (mT wg_483)) (fun _ h => h) rfl dX10_count_45 ?_
    refine pl_getN (v := .int 0) hx hb hts (fun w h => mT (inX3 w h)) hown hG.1 hP hm_nw hf_nw rfl 2 (by decide) (hG.2.1 _ wn_341) (fun _ h => h) rfl dX10_count_48 ?_
    exact ret_i (ty := .int) hx hb hr hlocks (rfl) hP hD hS (Nat.le_of_ble_eq_true rfl) (Nat.le_of_ble_eq_true rfl) (by simp [cntV]) dX10_count_51
  refine lv_tableOut (tgt := 52) hx hb dX10_count_1 (tb_out (by decide) (by decide) (fun k h1 h2 => ?_)) (by decide) ?_
  · rcases (show k = 0 ∨ k = 1 ∨ k = 2 by omega) with rfl | rfl | rfl
    · exact fun e => c1 (e.trans (by decide))
    · exact fun e => c2 (e.trans (by decide))
    · exact fun e => c3 (e.trans (by decide))
  ·
    refine lv_iconst (v := (-1)) hx hb dX10_count_52 (by decide) ?_
    exact ret_i (ty := .int) hx hb hr hlocks (rfl) hP hD hS (Nat.le_of_ble_eq_true rfl) (Nat.le_of_ble_eq_true rfl) (by simp [cntV, c1, c2, c3]) dX10_count_53
end
