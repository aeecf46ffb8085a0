section
-- ===== PART A: goes FIRST, ahead of the names: the tables' words, and 'selects' of the private methods out of them =====
/-- a private method of a class that the tables say can be made, by its rows of tables_1 -/
def lw_okq (q : MethodName × Nat) : Prop := (q.1.cls ≠ "java/lang/invoke/MethodHandle" ∧ q.1.cls ≠ "java/lang/invoke/VarHandle") ∧ Cond.instantiable q.1.cls q.2 ∈ tables_1 ∧ Cond.privateMethod q.1 ∈ tables_1 ∧ Cond.instanceMethod q.1 ∈ tables_1
theorem lw_p0 : lw_okq (⟨"DeskDays$Reader", "listOwnWords", "()V"⟩, 10) := ⟨⟨by decide +kernel, by decide +kernel⟩, List.mem_of_getElem? (i := 291) (by decide +kernel), List.mem_of_getElem? (i := 297) (by decide +kernel), List.mem_of_getElem? (i := 298) (by decide +kernel)⟩
theorem lw_p1 : lw_okq (⟨"DeskDays", "refuse", "(I)I"⟩, 14) := ⟨⟨by decide +kernel, by decide +kernel⟩, List.mem_of_getElem? (i := 23) (by decide +kernel), List.mem_of_getElem? (i := 562) (by decide +kernel), List.mem_of_getElem? (i := 563) (by decide +kernel)⟩
theorem lw_p2 : lw_okq (⟨"DeskDays", "addBytes", "(I)V"⟩, 14) := ⟨⟨by decide +kernel, by decide +kernel⟩, List.mem_of_getElem? (i := 23) (by decide +kernel), List.mem_of_getElem? (i := 566) (by decide +kernel), List.mem_of_getElem? (i := 567) (by decide +kernel)⟩
theorem lw_p3 : lw_okq (⟨"DeskDays$Reader", "failAt", "(II)V"⟩, 10) := ⟨⟨by decide +kernel, by decide +kernel⟩, List.mem_of_getElem? (i := 291) (by decide +kernel), List.mem_of_getElem? (i := 625) (by decide +kernel), List.mem_of_getElem? (i := 626) (by decide +kernel)⟩
theorem lw_p4 : lw_okq (⟨"DeskDays$Reader", "takeLetters", "()V"⟩, 10) := ⟨⟨by decide +kernel, by decide +kernel⟩, List.mem_of_getElem? (i := 291) (by decide +kernel), List.mem_of_getElem? (i := 629) (by decide +kernel), List.mem_of_getElem? (i := 630) (by decide +kernel)⟩
theorem lw_p5 : lw_okq (⟨"DeskDays$Reader", "takeDigits", "()V"⟩, 10) := ⟨⟨by decide +kernel, by decide +kernel⟩, List.mem_of_getElem? (i := 291) (by decide +kernel), List.mem_of_getElem? (i := 633) (by decide +kernel), List.mem_of_getElem? (i := 634) (by decide +kernel)⟩
theorem lw_p6 : lw_okq (⟨"DeskDays$Statements", "readFloor", "()V"⟩, 4) := ⟨⟨by decide +kernel, by decide +kernel⟩, List.mem_of_getElem? (i := 289) (by decide +kernel), List.mem_of_getElem? (i := 645) (by decide +kernel), List.mem_of_getElem? (i := 646) (by decide +kernel)⟩
theorem lw_p7 : lw_okq (⟨"DeskDays$Statements", "beginOneOf", "(II)V"⟩, 4) := ⟨⟨by decide +kernel, by decide +kernel⟩, List.mem_of_getElem? (i := 289) (by decide +kernel), List.mem_of_getElem? (i := 649) (by decide +kernel), List.mem_of_getElem? (i := 650) (by decide +kernel)⟩
theorem lw_p8 : lw_okq (⟨"DeskDays$Statements", "takeNewName", "()I"⟩, 4) := ⟨⟨by decide +kernel, by decide +kernel⟩, List.mem_of_getElem? (i := 289) (by decide +kernel), List.mem_of_getElem? (i := 655) (by decide +kernel), List.mem_of_getElem? (i := 656) (by decide +kernel)⟩
theorem lw_p9 : lw_okq (⟨"DeskDays$Statements", "takeNumber", "(I)I"⟩, 4) := ⟨⟨by decide +kernel, by decide +kernel⟩, List.mem_of_getElem? (i := 289) (by decide +kernel), List.mem_of_getElem? (i := 686) (by decide +kernel), List.mem_of_getElem? (i := 687) (by decide +kernel)⟩
theorem lw_p10 : lw_okq (⟨"DeskDays$Statements", "readTeam", "()V"⟩, 4) := ⟨⟨by decide +kernel, by decide +kernel⟩, List.mem_of_getElem? (i := 289) (by decide +kernel), List.mem_of_getElem? (i := 699) (by decide +kernel), List.mem_of_getElem? (i := 700) (by decide +kernel)⟩
theorem lw_p11 : lw_okq (⟨"DeskDays$Statements", "readPerson", "()V"⟩, 4) := ⟨⟨by decide +kernel, by decide +kernel⟩, List.mem_of_getElem? (i := 289) (by decide +kernel), List.mem_of_getElem? (i := 707) (by decide +kernel), List.mem_of_getElem? (i := 708) (by decide +kernel)⟩
theorem lw_p12 : lw_okq (⟨"DeskDays$Statements", "takeTeam", "()I"⟩, 4) := ⟨⟨by decide +kernel, by decide +kernel⟩, List.mem_of_getElem? (i := 289) (by decide +kernel), List.mem_of_getElem? (i := 711) (by decide +kernel), List.mem_of_getElem? (i := 712) (by decide +kernel)⟩
theorem lw_p13 : lw_okq (⟨"DeskDays$Statements", "askName", "(I)I"⟩, 4) := ⟨⟨by decide +kernel, by decide +kernel⟩, List.mem_of_getElem? (i := 289) (by decide +kernel), List.mem_of_getElem? (i := 716) (by decide +kernel), List.mem_of_getElem? (i := 717) (by decide +kernel)⟩
theorem lw_p14 : lw_okq (⟨"DeskDays$Statements", "readCannot", "()V"⟩, 4) := ⟨⟨by decide +kernel, by decide +kernel⟩, List.mem_of_getElem? (i := 289) (by decide +kernel), List.mem_of_getElem? (i := 724) (by decide +kernel), List.mem_of_getElem? (i := 725) (by decide +kernel)⟩
theorem lw_p15 : lw_okq (⟨"DeskDays$Statements", "takePerson", "()I"⟩, 4) := ⟨⟨by decide +kernel, by decide +kernel⟩, List.mem_of_getElem? (i := 289) (by decide +kernel), List.mem_of_getElem? (i := 728) (by decide +kernel), List.mem_of_getElem? (i := 729) (by decide +kernel)⟩
def lw_privs_1 : List (MethodName × Nat) := [(⟨"DeskDays$Reader", "listOwnWords", "()V"⟩, 10), (⟨"DeskDays", "refuse", "(I)I"⟩, 14), (⟨"DeskDays", "addBytes", "(I)V"⟩, 14), (⟨"DeskDays$Reader", "failAt", "(II)V"⟩, 10), (⟨"DeskDays$Reader", "takeLetters", "()V"⟩, 10), (⟨"DeskDays$Reader", "takeDigits", "()V"⟩, 10), (⟨"DeskDays$Statements", "readFloor", "()V"⟩, 4), (⟨"DeskDays$Statements", "beginOneOf", "(II)V"⟩, 4), (⟨"DeskDays$Statements", "takeNewName", "()I"⟩, 4), (⟨"DeskDays$Statements", "takeNumber", "(I)I"⟩, 4), (⟨"DeskDays$Statements", "readTeam", "()V"⟩, 4), (⟨"DeskDays$Statements", "readPerson", "()V"⟩, 4), (⟨"DeskDays$Statements", "takeTeam", "()I"⟩, 4), (⟨"DeskDays$Statements", "askName", "(I)I"⟩, 4), (⟨"DeskDays$Statements", "readCannot", "()V"⟩, 4), (⟨"DeskDays$Statements", "takePerson", "()I"⟩, 4)]
theorem lw_r1 : ∀ q ∈ lw_privs_1, lw_okq q := List.forall_mem_cons.mpr ⟨lw_p0, List.forall_mem_cons.mpr ⟨lw_p1, List.forall_mem_cons.mpr ⟨lw_p2, List.forall_mem_cons.mpr ⟨lw_p3, List.forall_mem_cons.mpr ⟨lw_p4, List.forall_mem_cons.mpr ⟨lw_p5, List.forall_mem_cons.mpr ⟨lw_p6, List.forall_mem_cons.mpr ⟨lw_p7, List.forall_mem_cons.mpr ⟨lw_p8, List.forall_mem_cons.mpr ⟨lw_p9, List.forall_mem_cons.mpr ⟨lw_p10, List.forall_mem_cons.mpr ⟨lw_p11, List.forall_mem_cons.mpr ⟨lw_p12, List.forall_mem_cons.mpr ⟨lw_p13, List.forall_mem_cons.mpr ⟨lw_p14, List.forall_mem_cons.mpr ⟨lw_p15, fun _ h => absurd h List.not_mem_nil⟩⟩⟩⟩⟩⟩⟩⟩⟩⟩⟩⟩⟩⟩⟩⟩
theorem lw_p16 : lw_okq (⟨"DeskDays$Statements", "askPerson", "()I"⟩, 4) := ⟨⟨by decide +kernel, by decide +kernel⟩, List.mem_of_getElem? (i := 289) (by decide +kernel), List.mem_of_getElem? (i := 732) (by decide +kernel), List.mem_of_getElem? (i := 733) (by decide +kernel)⟩
theorem lw_p17 : lw_okq (⟨"DeskDays$Statements", "takeDay", "()I"⟩, 4) := ⟨⟨by decide +kernel, by decide +kernel⟩, List.mem_of_getElem? (i := 289) (by decide +kernel), List.mem_of_getElem? (i := 737) (by decide +kernel), List.mem_of_getElem? (i := 738) (by decide +kernel)⟩
theorem lw_p18 : lw_okq (⟨"DeskDays$Statements", "readLikes", "()V"⟩, 4) := ⟨⟨by decide +kernel, by decide +kernel⟩, List.mem_of_getElem? (i := 289) (by decide +kernel), List.mem_of_getElem? (i := 747) (by decide +kernel), List.mem_of_getElem? (i := 748) (by decide +kernel)⟩
theorem lw_p19 : lw_okq (⟨"DeskDays$Statements", "readTie", "()V"⟩, 4) := ⟨⟨by decide +kernel, by decide +kernel⟩, List.mem_of_getElem? (i := 289) (by decide +kernel), List.mem_of_getElem? (i := 751) (by decide +kernel), List.mem_of_getElem? (i := 752) (by decide +kernel)⟩
theorem lw_p20 : lw_okq (⟨"DeskDays$Statements", "readComes", "()V"⟩, 4) := ⟨⟨by decide +kernel, by decide +kernel⟩, List.mem_of_getElem? (i := 289) (by decide +kernel), List.mem_of_getElem? (i := 759) (by decide +kernel), List.mem_of_getElem? (i := 760) (by decide +kernel)⟩
theorem lw_p21 : lw_okq (⟨"DeskDays$Statements", "readVisit", "()V"⟩, 4) := ⟨⟨by decide +kernel, by decide +kernel⟩, List.mem_of_getElem? (i := 289) (by decide +kernel), List.mem_of_getElem? (i := 763) (by decide +kernel), List.mem_of_getElem? (i := 764) (by decide +kernel)⟩
theorem lw_p22 : lw_okq (⟨"DeskDays$Statements", "readOwn", "()V"⟩, 4) := ⟨⟨by decide +kernel, by decide +kernel⟩, List.mem_of_getElem? (i := 289) (by decide +kernel), List.mem_of_getElem? (i := 767) (by decide +kernel), List.mem_of_getElem? (i := 768) (by decide +kernel)⟩
theorem lw_p23 : lw_okq (⟨"DeskDays$Statements", "readMeet", "()V"⟩, 4) := ⟨⟨by decide +kernel, by decide +kernel⟩, List.mem_of_getElem? (i := 289) (by decide +kernel), List.mem_of_getElem? (i := 772) (by decide +kernel), List.mem_of_getElem? (i := 773) (by decide +kernel)⟩
theorem lw_p24 : lw_okq (⟨"DeskDays$Statements", "readTurns", "()V"⟩, 4) := ⟨⟨by decide +kernel, by decide +kernel⟩, List.mem_of_getElem? (i := 289) (by decide +kernel), List.mem_of_getElem? (i := 776) (by decide +kernel), List.mem_of_getElem? (i := 777) (by decide +kernel)⟩
theorem lw_p25 : lw_okq (⟨"DeskDays$Statements", "readStand", "()V"⟩, 4) := ⟨⟨by decide +kernel, by decide +kernel⟩, List.mem_of_getElem? (i := 289) (by decide +kernel), List.mem_of_getElem? (i := 780) (by decide +kernel), List.mem_of_getElem? (i := 781) (by decide +kernel)⟩
theorem lw_p26 : lw_okq (⟨"DeskDays$RuleReader", "readSum", "(I)V"⟩, 2) := ⟨⟨by decide +kernel, by decide +kernel⟩, List.mem_of_getElem? (i := 395) (by decide +kernel), List.mem_of_getElem? (i := 792) (by decide +kernel), List.mem_of_getElem? (i := 793) (by decide +kernel)⟩
theorem lw_p27 : lw_okq (⟨"DeskDays$RuleReader", "readProduct", "(I)V"⟩, 2) := ⟨⟨by decide +kernel, by decide +kernel⟩, List.mem_of_getElem? (i := 395) (by decide +kernel), List.mem_of_getElem? (i := 796) (by decide +kernel), List.mem_of_getElem? (i := 797) (by decide +kernel)⟩
theorem lw_p28 : lw_okq (⟨"DeskDays$RuleReader", "readPart", "(I)V"⟩, 2) := ⟨⟨by decide +kernel, by decide +kernel⟩, List.mem_of_getElem? (i := 395) (by decide +kernel), List.mem_of_getElem? (i := 800) (by decide +kernel), List.mem_of_getElem? (i := 801) (by decide +kernel)⟩
theorem lw_p29 : lw_okq (⟨"DeskDays$RuleReader", "addTaken", "(II)V"⟩, 2) := ⟨⟨by decide +kernel, by decide +kernel⟩, List.mem_of_getElem? (i := 395) (by decide +kernel), List.mem_of_getElem? (i := 805) (by decide +kernel), List.mem_of_getElem? (i := 806) (by decide +kernel)⟩
theorem lw_p30 : lw_okq (⟨"DeskDays$RuleReader", "readPair", "(II)V"⟩, 2) := ⟨⟨by decide +kernel, by decide +kernel⟩, List.mem_of_getElem? (i := 395) (by decide +kernel), List.mem_of_getElem? (i := 814) (by decide +kernel), List.mem_of_getElem? (i := 815) (by decide +kernel)⟩
theorem lw_p31 : lw_okq (⟨"DeskDays$RuleReader", "takeOpening", "(II)Z"⟩, 2) := ⟨⟨by decide +kernel, by decide +kernel⟩, List.mem_of_getElem? (i := 395) (by decide +kernel), List.mem_of_getElem? (i := 818) (by decide +kernel), List.mem_of_getElem? (i := 819) (by decide +kernel)⟩
def lw_privs_2 : List (MethodName × Nat) := [(⟨"DeskDays$Statements", "askPerson", "()I"⟩, 4), (⟨"DeskDays$Statements", "takeDay", "()I"⟩, 4), (⟨"DeskDays$Statements", "readLikes", "()V"⟩, 4), (⟨"DeskDays$Statements", "readTie", "()V"⟩, 4), (⟨"DeskDays$Statements", "readComes", "()V"⟩, 4), (⟨"DeskDays$Statements", "readVisit", "()V"⟩, 4), (⟨"DeskDays$Statements", "readOwn", "()V"⟩, 4), (⟨"DeskDays$Statements", "readMeet", "()V"⟩, 4), (⟨"DeskDays$Statements", "readTurns", "()V"⟩, 4), (⟨"DeskDays$Statements", "readStand", "()V"⟩, 4), (⟨"DeskDays$RuleReader", "readSum", "(I)V"⟩, 2), (⟨"DeskDays$RuleReader", "readProduct", "(I)V"⟩, 2), (⟨"DeskDays$RuleReader", "readPart", "(I)V"⟩, 2), (⟨"DeskDays$RuleReader", "addTaken", "(II)V"⟩, 2), (⟨"DeskDays$RuleReader", "readPair", "(II)V"⟩, 2), (⟨"DeskDays$RuleReader", "takeOpening", "(II)Z"⟩, 2)]
theorem lw_r2 : ∀ q ∈ lw_privs_2, lw_okq q := List.forall_mem_cons.mpr ⟨lw_p16, List.forall_mem_cons.mpr ⟨lw_p17, List.forall_mem_cons.mpr ⟨lw_p18, List.forall_mem_cons.mpr ⟨lw_p19, List.forall_mem_cons.mpr ⟨lw_p20, List.forall_mem_cons.mpr ⟨lw_p21, List.forall_mem_cons.mpr ⟨lw_p22, List.forall_mem_cons.mpr ⟨lw_p23, List.forall_mem_cons.mpr ⟨lw_p24, List.forall_mem_cons.mpr ⟨lw_p25, List.forall_mem_cons.mpr ⟨lw_p26, List.forall_mem_cons.mpr ⟨lw_p27, List.forall_mem_cons.mpr ⟨lw_p28, List.forall_mem_cons.mpr ⟨lw_p29, List.forall_mem_cons.mpr ⟨lw_p30, List.forall_mem_cons.mpr ⟨lw_p31, fun _ h => absurd h List.not_mem_nil⟩⟩⟩⟩⟩⟩⟩⟩⟩⟩⟩⟩⟩⟩⟩⟩
theorem lw_p32 : lw_okq (⟨"DeskDays$RuleReader", "productKind", "()I"⟩, 2) := ⟨⟨by decide +kernel, by decide +kernel⟩, List.mem_of_getElem? (i := 395) (by decide +kernel), List.mem_of_getElem? (i := 833) (by decide +kernel), List.mem_of_getElem? (i := 834) (by decide +kernel)⟩
theorem lw_p33 : lw_okq (⟨"DeskDays$RuleReader", "readTest", "(I)V"⟩, 2) := ⟨⟨by decide +kernel, by decide +kernel⟩, List.mem_of_getElem? (i := 395) (by decide +kernel), List.mem_of_getElem? (i := 842) (by decide +kernel), List.mem_of_getElem? (i := 843) (by decide +kernel)⟩
theorem lw_p34 : lw_okq (⟨"DeskDays$RuleReader", "readBoth", "(I)V"⟩, 2) := ⟨⟨by decide +kernel, by decide +kernel⟩, List.mem_of_getElem? (i := 395) (by decide +kernel), List.mem_of_getElem? (i := 846) (by decide +kernel), List.mem_of_getElem? (i := 847) (by decide +kernel)⟩
theorem lw_p35 : lw_okq (⟨"DeskDays$RuleReader", "readFact", "(I)V"⟩, 2) := ⟨⟨by decide +kernel, by decide +kernel⟩, List.mem_of_getElem? (i := 395) (by decide +kernel), List.mem_of_getElem? (i := 850) (by decide +kernel), List.mem_of_getElem? (i := 851) (by decide +kernel)⟩
theorem lw_p36 : lw_okq (⟨"DeskDays$RuleReader", "takeComparison", "()I"⟩, 2) := ⟨⟨by decide +kernel, by decide +kernel⟩, List.mem_of_getElem? (i := 395) (by decide +kernel), List.mem_of_getElem? (i := 854) (by decide +kernel), List.mem_of_getElem? (i := 855) (by decide +kernel)⟩
theorem lw_p37 : lw_okq (⟨"DeskDays", "isPerson", "(I)Z"⟩, 14) := ⟨⟨by decide +kernel, by decide +kernel⟩, List.mem_of_getElem? (i := 23) (by decide +kernel), List.mem_of_getElem? (i := 908) (by decide +kernel), List.mem_of_getElem? (i := 909) (by decide +kernel)⟩
theorem lw_p38 : lw_okq (⟨"DeskDays", "areSets", "(I)Z"⟩, 14) := ⟨⟨by decide +kernel, by decide +kernel⟩, List.mem_of_getElem? (i := 23) (by decide +kernel), List.mem_of_getElem? (i := 924) (by decide +kernel), List.mem_of_getElem? (i := 925) (by decide +kernel)⟩
theorem lw_p39 : lw_okq (⟨"DeskDays", "takeSets", "(I)V"⟩, 14) := ⟨⟨by decide +kernel, by decide +kernel⟩, List.mem_of_getElem? (i := 23) (by decide +kernel), List.mem_of_getElem? (i := 928) (by decide +kernel), List.mem_of_getElem? (i := 929) (by decide +kernel)⟩
theorem lw_p40 : lw_okq (⟨"DeskDays$Plan", "findForbiddenDay", "()V"⟩, 6) := ⟨⟨by decide +kernel, by decide +kernel⟩, List.mem_of_getElem? (i := 423) (by decide +kernel), List.mem_of_getElem? (i := 967) (by decide +kernel), List.mem_of_getElem? (i := 968) (by decide +kernel)⟩
theorem lw_p41 : lw_okq (⟨"DeskDays$Plan", "findOtherNumber", "()V"⟩, 6) := ⟨⟨by decide +kernel, by decide +kernel⟩, List.mem_of_getElem? (i := 423) (by decide +kernel), List.mem_of_getElem? (i := 971) (by decide +kernel), List.mem_of_getElem? (i := 972) (by decide +kernel)⟩
theorem lw_p42 : lw_okq (⟨"DeskDays$Plan", "findStanding", "()V"⟩, 6) := ⟨⟨by decide +kernel, by decide +kernel⟩, List.mem_of_getElem? (i := 423) (by decide +kernel), List.mem_of_getElem? (i := 975) (by decide +kernel), List.mem_of_getElem? (i := 976) (by decide +kernel)⟩
theorem lw_p43 : lw_okq (⟨"DeskDays$Plan", "findTeamApart", "()V"⟩, 6) := ⟨⟨by decide +kernel, by decide +kernel⟩, List.mem_of_getElem? (i := 423) (by decide +kernel), List.mem_of_getElem? (i := 980) (by decide +kernel), List.mem_of_getElem? (i := 981) (by decide +kernel)⟩
theorem lw_p44 : lw_okq (⟨"DeskDays$Plan", "ruledSum", "(III)I"⟩, 6) := ⟨⟨by decide +kernel, by decide +kernel⟩, List.mem_of_getElem? (i := 423) (by decide +kernel), List.mem_of_getElem? (i := 1006) (by decide +kernel), List.mem_of_getElem? (i := 1007) (by decide +kernel)⟩
theorem lw_p45 : lw_okq (⟨"DeskDays$Rules", "run", "(II)I"⟩, 8) := ⟨⟨by decide +kernel, by decide +kernel⟩, List.mem_of_getElem? (i := 170) (by decide +kernel), List.mem_of_getElem? (i := 1014) (by decide +kernel), List.mem_of_getElem? (i := 1015) (by decide +kernel)⟩
theorem lw_p46 : lw_okq (⟨"DeskDays$Rules", "given", "(II)I"⟩, 8) := ⟨⟨by decide +kernel, by decide +kernel⟩, List.mem_of_getElem? (i := 170) (by decide +kernel), List.mem_of_getElem? (i := 1018) (by decide +kernel), List.mem_of_getElem? (i := 1019) (by decide +kernel)⟩
theorem lw_p47 : lw_okq (⟨"DeskDays$Seeker", "load", "(II)V"⟩, 5) := ⟨⟨by decide +kernel, by decide +kernel⟩, List.mem_of_getElem? (i := 461) (by decide +kernel), List.mem_of_getElem? (i := 1050) (by decide +kernel), List.mem_of_getElem? (i := 1051) (by decide +kernel)⟩
def lw_privs_3 : List (MethodName × Nat) := [(⟨"DeskDays$RuleReader", "productKind", "()I"⟩, 2), (⟨"DeskDays$RuleReader", "readTest", "(I)V"⟩, 2), (⟨"DeskDays$RuleReader", "readBoth", "(I)V"⟩, 2), (⟨"DeskDays$RuleReader", "readFact", "(I)V"⟩, 2), (⟨"DeskDays$RuleReader", "takeComparison", "()I"⟩, 2), (⟨"DeskDays", "isPerson", "(I)Z"⟩, 14), (⟨"DeskDays", "areSets", "(I)Z"⟩, 14), (⟨"DeskDays", "takeSets", "(I)V"⟩, 14), (⟨"DeskDays$Plan", "findForbiddenDay", "()V"⟩, 6), (⟨"DeskDays$Plan", "findOtherNumber", "()V"⟩, 6), (⟨"DeskDays$Plan", "findStanding", "()V"⟩, 6), (⟨"DeskDays$Plan", "findTeamApart", "()V"⟩, 6), (⟨"DeskDays$Plan", "ruledSum", "(III)I"⟩, 6), (⟨"DeskDays$Rules", "run", "(II)I"⟩, 8), (⟨"DeskDays$Rules", "given", "(II)I"⟩, 8), (⟨"DeskDays$Seeker", "load", "(II)V"⟩, 5)]
theorem lw_r3 : ∀ q ∈ lw_privs_3, lw_okq q := List.forall_mem_cons.mpr ⟨lw_p32, List.forall_mem_cons.mpr ⟨lw_p33, List.forall_mem_cons.mpr ⟨lw_p34, List.forall_mem_cons.mpr ⟨lw_p35, List.forall_mem_cons.mpr ⟨lw_p36, List.forall_mem_cons.mpr ⟨lw_p37, List.forall_mem_cons.mpr ⟨lw_p38, List.forall_mem_cons.mpr ⟨lw_p39, List.forall_mem_cons.mpr ⟨lw_p40, List.forall_mem_cons.mpr ⟨lw_p41, List.forall_mem_cons.mpr ⟨lw_p42, List.forall_mem_cons.mpr ⟨lw_p43, List.forall_mem_cons.mpr ⟨lw_p44, List.forall_mem_cons.mpr ⟨lw_p45, List.forall_mem_cons.mpr ⟨lw_p46, List.forall_mem_cons.mpr ⟨lw_p47, fun _ h => absurd h List.not_mem_nil⟩⟩⟩⟩⟩⟩⟩⟩⟩⟩⟩⟩⟩⟩⟩⟩
theorem lw_p48 : lw_okq (⟨"DeskDays$Seeker", "isFitting", "(II)Z"⟩, 5) := ⟨⟨by decide +kernel, by decide +kernel⟩, List.mem_of_getElem? (i := 461) (by decide +kernel), List.mem_of_getElem? (i := 1054) (by decide +kernel), List.mem_of_getElem? (i := 1055) (by decide +kernel)⟩
theorem lw_p49 : lw_okq (⟨"DeskDays", "areTwo", "(II)Z"⟩, 14) := ⟨⟨by decide +kernel, by decide +kernel⟩, List.mem_of_getElem? (i := 23) (by decide +kernel), List.mem_of_getElem? (i := 1099) (by decide +kernel), List.mem_of_getElem? (i := 1100) (by decide +kernel)⟩
theorem lw_p50 : lw_okq (⟨"DeskDays$Seeker", "exchange", "(II)V"⟩, 5) := ⟨⟨by decide +kernel, by decide +kernel⟩, List.mem_of_getElem? (i := 461) (by decide +kernel), List.mem_of_getElem? (i := 1116) (by decide +kernel), List.mem_of_getElem? (i := 1117) (by decide +kernel)⟩
theorem lw_p51 : lw_okq (⟨"DeskDays$Plan", "isLonely", "(I)Z"⟩, 6) := ⟨⟨by decide +kernel, by decide +kernel⟩, List.mem_of_getElem? (i := 423) (by decide +kernel), List.mem_of_getElem? (i := 1136) (by decide +kernel), List.mem_of_getElem? (i := 1137) (by decide +kernel)⟩
theorem lw_p52 : lw_okq (⟨"DeskDays$Chances", "begin", "()V"⟩, 2) := ⟨⟨by decide +kernel, by decide +kernel⟩, List.mem_of_getElem? (i := 501) (by decide +kernel), List.mem_of_getElem? (i := 1160) (by decide +kernel), List.mem_of_getElem? (i := 1161) (by decide +kernel)⟩
theorem lw_p53 : lw_okq (⟨"DeskDays$Chances", "admit", "(I)V"⟩, 2) := ⟨⟨by decide +kernel, by decide +kernel⟩, List.mem_of_getElem? (i := 501) (by decide +kernel), List.mem_of_getElem? (i := 1169) (by decide +kernel), List.mem_of_getElem? (i := 1170) (by decide +kernel)⟩
theorem lw_p54 : lw_okq (⟨"DeskDays", "drawComer", "(I)I"⟩, 14) := ⟨⟨by decide +kernel, by decide +kernel⟩, List.mem_of_getElem? (i := 23) (by decide +kernel), List.mem_of_getElem? (i := 1211) (by decide +kernel), List.mem_of_getElem? (i := 1212) (by decide +kernel)⟩
theorem lw_p55 : lw_okq (⟨"DeskDays$Plan", "goRound", "()Z"⟩, 6) := ⟨⟨by decide +kernel, by decide +kernel⟩, List.mem_of_getElem? (i := 423) (by decide +kernel), List.mem_of_getElem? (i := 1240) (by decide +kernel), List.mem_of_getElem? (i := 1241) (by decide +kernel)⟩
theorem lw_p56 : lw_okq (⟨"DeskDays$Plan", "choiceAlone", "(I)I"⟩, 6) := ⟨⟨by decide +kernel, by decide +kernel⟩, List.mem_of_getElem? (i := 423) (by decide +kernel), List.mem_of_getElem? (i := 1244) (by decide +kernel), List.mem_of_getElem? (i := 1245) (by decide +kernel)⟩
theorem lw_p57 : lw_okq (⟨"DeskDays$Seats", "settleBest", "(I)V"⟩, 3) := ⟨⟨by decide +kernel, by decide +kernel⟩, List.mem_of_getElem? (i := 484) (by decide +kernel), List.mem_of_getElem? (i := 1258) (by decide +kernel), List.mem_of_getElem? (i := 1259) (by decide +kernel)⟩
theorem lw_p58 : lw_okq (⟨"DeskDays$Seats", "tiesThere", "(II)I"⟩, 3) := ⟨⟨by decide +kernel, by decide +kernel⟩, List.mem_of_getElem? (i := 484) (by decide +kernel), List.mem_of_getElem? (i := 1262) (by decide +kernel), List.mem_of_getElem? (i := 1263) (by decide +kernel)⟩
theorem lw_p59 : lw_okq (⟨"DeskDays$Seats", "exchangeFirst", "()Z"⟩, 3) := ⟨⟨by decide +kernel, by decide +kernel⟩, List.mem_of_getElem? (i := 484) (by decide +kernel), List.mem_of_getElem? (i := 1270) (by decide +kernel), List.mem_of_getElem? (i := 1271) (by decide +kernel)⟩
theorem lw_p60 : lw_okq (⟨"DeskDays$Seats", "isMovable", "(I)Z"⟩, 3) := ⟨⟨by decide +kernel, by decide +kernel⟩, List.mem_of_getElem? (i := 484) (by decide +kernel), List.mem_of_getElem? (i := 1278) (by decide +kernel), List.mem_of_getElem? (i := 1279) (by decide +kernel)⟩
theorem lw_p61 : lw_okq (⟨"DeskDays$Seats", "exchange", "(II)V"⟩, 3) := ⟨⟨by decide +kernel, by decide +kernel⟩, List.mem_of_getElem? (i := 484) (by decide +kernel), List.mem_of_getElem? (i := 1282) (by decide +kernel), List.mem_of_getElem? (i := 1283) (by decide +kernel)⟩
theorem lw_p62 : lw_okq (⟨"DeskDays$Seats", "isOwnerIn", "(II)Z"⟩, 3) := ⟨⟨by decide +kernel, by decide +kernel⟩, List.mem_of_getElem? (i := 484) (by decide +kernel), List.mem_of_getElem? (i := 1300) (by decide +kernel), List.mem_of_getElem? (i := 1301) (by decide +kernel)⟩
theorem lw_p63 : lw_okq (⟨"DeskDays$Plan", "turnedSet", "(II)I"⟩, 6) := ⟨⟨by decide +kernel, by decide +kernel⟩, List.mem_of_getElem? (i := 423) (by decide +kernel), List.mem_of_getElem? (i := 1312) (by decide +kernel), List.mem_of_getElem? (i := 1313) (by decide +kernel)⟩
def lw_privs_4 : List (MethodName × Nat) := [(⟨"DeskDays$Seeker", "isFitting", "(II)Z"⟩, 5), (⟨"DeskDays", "areTwo", "(II)Z"⟩, 14), (⟨"DeskDays$Seeker", "exchange", "(II)V"⟩, 5), (⟨"DeskDays$Plan", "isLonely", "(I)Z"⟩, 6), (⟨"DeskDays$Chances", "begin", "()V"⟩, 2), (⟨"DeskDays$Chances", "admit", "(I)V"⟩, 2), (⟨"DeskDays", "drawComer", "(I)I"⟩, 14), (⟨"DeskDays$Plan", "goRound", "()Z"⟩, 6), (⟨"DeskDays$Plan", "choiceAlone", "(I)I"⟩, 6), (⟨"DeskDays$Seats", "settleBest", "(I)V"⟩, 3), (⟨"DeskDays$Seats", "tiesThere", "(II)I"⟩, 3), (⟨"DeskDays$Seats", "exchangeFirst", "()Z"⟩, 3), (⟨"DeskDays$Seats", "isMovable", "(I)Z"⟩, 3), (⟨"DeskDays$Seats", "exchange", "(II)V"⟩, 3), (⟨"DeskDays$Seats", "isOwnerIn", "(II)Z"⟩, 3), (⟨"DeskDays$Plan", "turnedSet", "(II)I"⟩, 6)]
theorem lw_r4 : ∀ q ∈ lw_privs_4, lw_okq q := List.forall_mem_cons.mpr ⟨lw_p48, List.forall_mem_cons.mpr ⟨lw_p49, List.forall_mem_cons.mpr ⟨lw_p50, List.forall_mem_cons.mpr ⟨lw_p51, List.forall_mem_cons.mpr ⟨lw_p52, List.forall_mem_cons.mpr ⟨lw_p53, List.forall_mem_cons.mpr ⟨lw_p54, List.forall_mem_cons.mpr ⟨lw_p55, List.forall_mem_cons.mpr ⟨lw_p56, List.forall_mem_cons.mpr ⟨lw_p57, List.forall_mem_cons.mpr ⟨lw_p58, List.forall_mem_cons.mpr ⟨lw_p59, List.forall_mem_cons.mpr ⟨lw_p60, List.forall_mem_cons.mpr ⟨lw_p61, List.forall_mem_cons.mpr ⟨lw_p62, List.forall_mem_cons.mpr ⟨lw_p63, fun _ h => absurd h List.not_mem_nil⟩⟩⟩⟩⟩⟩⟩⟩⟩⟩⟩⟩⟩⟩⟩⟩
theorem lw_p64 : lw_okq (⟨"DeskDays", "isImage", "()Z"⟩, 14) := ⟨⟨by decide +kernel, by decide +kernel⟩, List.mem_of_getElem? (i := 23) (by decide +kernel), List.mem_of_getElem? (i := 1351) (by decide +kernel), List.mem_of_getElem? (i := 1352) (by decide +kernel)⟩
theorem lw_p65 : lw_okq (⟨"DeskDaysModel", "refuses", "(I)I"⟩, 70) := ⟨⟨by decide +kernel, by decide +kernel⟩, List.mem_of_getElem? (i := 1359) (by decide +kernel), List.mem_of_getElem? (i := 1580) (by decide +kernel), List.mem_of_getElem? (i := 1581) (by decide +kernel)⟩
theorem lw_p66 : lw_okq (⟨"DeskDaysModel", "put", "(I)V"⟩, 70) := ⟨⟨by decide +kernel, by decide +kernel⟩, List.mem_of_getElem? (i := 1359) (by decide +kernel), List.mem_of_getElem? (i := 1584) (by decide +kernel), List.mem_of_getElem? (i := 1585) (by decide +kernel)⟩
theorem lw_p67 : lw_okq (⟨"DeskDaysModel", "ahead", "()V"⟩, 70) := ⟨⟨by decide +kernel, by decide +kernel⟩, List.mem_of_getElem? (i := 1359) (by decide +kernel), List.mem_of_getElem? (i := 1596) (by decide +kernel), List.mem_of_getElem? (i := 1597) (by decide +kernel)⟩
theorem lw_p68 : lw_okq (⟨"DeskDaysModel", "blame", "(II)V"⟩, 70) := ⟨⟨by decide +kernel, by decide +kernel⟩, List.mem_of_getElem? (i := 1359) (by decide +kernel), List.mem_of_getElem? (i := 1606) (by decide +kernel), List.mem_of_getElem? (i := 1607) (by decide +kernel)⟩
theorem lw_p69 : lw_okq (⟨"DeskDaysModel", "statement", "()V"⟩, 70) := ⟨⟨by decide +kernel, by decide +kernel⟩, List.mem_of_getElem? (i := 1359) (by decide +kernel), List.mem_of_getElem? (i := 1610) (by decide +kernel), List.mem_of_getElem? (i := 1611) (by decide +kernel)⟩
theorem lw_p70 : lw_okq (⟨"DeskDaysModel", "isWord", "(J)Z"⟩, 70) := ⟨⟨by decide +kernel, by decide +kernel⟩, List.mem_of_getElem? (i := 1359) (by decide +kernel), List.mem_of_getElem? (i := 1615) (by decide +kernel), List.mem_of_getElem? (i := 1616) (by decide +kernel)⟩
theorem lw_p71 : lw_okq (⟨"DeskDaysModel", "floor", "()V"⟩, 70) := ⟨⟨by decide +kernel, by decide +kernel⟩, List.mem_of_getElem? (i := 1359) (by decide +kernel), List.mem_of_getElem? (i := 1619) (by decide +kernel), List.mem_of_getElem? (i := 1620) (by decide +kernel)⟩
theorem lw_p72 : lw_okq (⟨"DeskDaysModel", "counts", "(Z)Z"⟩, 70) := ⟨⟨by decide +kernel, by decide +kernel⟩, List.mem_of_getElem? (i := 1359) (by decide +kernel), List.mem_of_getElem? (i := 1623) (by decide +kernel), List.mem_of_getElem? (i := 1624) (by decide +kernel)⟩
theorem lw_p73 : lw_okq (⟨"DeskDaysModel", "fresh", "()J"⟩, 70) := ⟨⟨by decide +kernel, by decide +kernel⟩, List.mem_of_getElem? (i := 1359) (by decide +kernel), List.mem_of_getElem? (i := 1627) (by decide +kernel), List.mem_of_getElem? (i := 1628) (by decide +kernel)⟩
theorem lw_p74 : lw_okq (⟨"DeskDaysModel", "isOwn", "(J)Z"⟩, 70) := ⟨⟨by decide +kernel, by decide +kernel⟩, List.mem_of_getElem? (i := 1359) (by decide +kernel), List.mem_of_getElem? (i := 1631) (by decide +kernel), List.mem_of_getElem? (i := 1632) (by decide +kernel)⟩
theorem lw_p75 : lw_okq (⟨"DeskDaysModel", "named", "(IJ)I"⟩, 70) := ⟨⟨by decide +kernel, by decide +kernel⟩, List.mem_of_getElem? (i := 1359) (by decide +kernel), List.mem_of_getElem? (i := 1667) (by decide +kernel), List.mem_of_getElem? (i := 1668) (by decide +kernel)⟩
theorem lw_p76 : lw_okq (⟨"DeskDaysModel", "must", "(J)V"⟩, 70) := ⟨⟨by decide +kernel, by decide +kernel⟩, List.mem_of_getElem? (i := 1359) (by decide +kernel), List.mem_of_getElem? (i := 1671) (by decide +kernel), List.mem_of_getElem? (i := 1672) (by decide +kernel)⟩
theorem lw_p77 : lw_okq (⟨"DeskDaysModel", "number", "(II)I"⟩, 70) := ⟨⟨by decide +kernel, by decide +kernel⟩, List.mem_of_getElem? (i := 1359) (by decide +kernel), List.mem_of_getElem? (i := 1675) (by decide +kernel), List.mem_of_getElem? (i := 1676) (by decide +kernel)⟩
theorem lw_p78 : lw_okq (⟨"DeskDaysModel", "team", "()V"⟩, 70) := ⟨⟨by decide +kernel, by decide +kernel⟩, List.mem_of_getElem? (i := 1359) (by decide +kernel), List.mem_of_getElem? (i := 1682) (by decide +kernel), List.mem_of_getElem? (i := 1683) (by decide +kernel)⟩
theorem lw_p79 : lw_okq (⟨"DeskDaysModel", "person", "()V"⟩, 70) := ⟨⟨by decide +kernel, by decide +kernel⟩, List.mem_of_getElem? (i := 1359) (by decide +kernel), List.mem_of_getElem? (i := 1686) (by decide +kernel), List.mem_of_getElem? (i := 1687) (by decide +kernel)⟩
def lw_privs_5 : List (MethodName × Nat) := [(⟨"DeskDays", "isImage", "()Z"⟩, 14), (⟨"DeskDaysModel", "refuses", "(I)I"⟩, 70), (⟨"DeskDaysModel", "put", "(I)V"⟩, 70), (⟨"DeskDaysModel", "ahead", "()V"⟩, 70), (⟨"DeskDaysModel", "blame", "(II)V"⟩, 70), (⟨"DeskDaysModel", "statement", "()V"⟩, 70), (⟨"DeskDaysModel", "isWord", "(J)Z"⟩, 70), (⟨"DeskDaysModel", "floor", "()V"⟩, 70), (⟨"DeskDaysModel", "counts", "(Z)Z"⟩, 70), (⟨"DeskDaysModel", "fresh", "()J"⟩, 70), (⟨"DeskDaysModel", "isOwn", "(J)Z"⟩, 70), (⟨"DeskDaysModel", "named", "(IJ)I"⟩, 70), (⟨"DeskDaysModel", "must", "(J)V"⟩, 70), (⟨"DeskDaysModel", "number", "(II)I"⟩, 70), (⟨"DeskDaysModel", "team", "()V"⟩, 70), (⟨"DeskDaysModel", "person", "()V"⟩, 70)]
theorem lw_r5 : ∀ q ∈ lw_privs_5, lw_okq q := List.forall_mem_cons.mpr ⟨lw_p64, List.forall_mem_cons.mpr ⟨lw_p65, List.forall_mem_cons.mpr ⟨lw_p66, List.forall_mem_cons.mpr ⟨lw_p67, List.forall_mem_cons.mpr ⟨lw_p68, List.forall_mem_cons.mpr ⟨lw_p69, List.forall_mem_cons.mpr ⟨lw_p70, List.forall_mem_cons.mpr ⟨lw_p71, List.forall_mem_cons.mpr ⟨lw_p72, List.forall_mem_cons.mpr ⟨lw_p73, List.forall_mem_cons.mpr ⟨lw_p74, List.forall_mem_cons.mpr ⟨lw_p75, List.forall_mem_cons.mpr ⟨lw_p76, List.forall_mem_cons.mpr ⟨lw_p77, List.forall_mem_cons.mpr ⟨lw_p78, List.forall_mem_cons.mpr ⟨lw_p79, fun _ h => absurd h List.not_mem_nil⟩⟩⟩⟩⟩⟩⟩⟩⟩⟩⟩⟩⟩⟩⟩⟩
theorem lw_p80 : lw_okq (⟨"DeskDaysModel", "asked", "(I)I"⟩, 70) := ⟨⟨by decide +kernel, by decide +kernel⟩, List.mem_of_getElem? (i := 1359) (by decide +kernel), List.mem_of_getElem? (i := 1690) (by decide +kernel), List.mem_of_getElem? (i := 1691) (by decide +kernel)⟩
theorem lw_p81 : lw_okq (⟨"DeskDaysModel", "cannots", "()V"⟩, 70) := ⟨⟨by decide +kernel, by decide +kernel⟩, List.mem_of_getElem? (i := 1359) (by decide +kernel), List.mem_of_getElem? (i := 1694) (by decide +kernel), List.mem_of_getElem? (i := 1695) (by decide +kernel)⟩
theorem lw_p82 : lw_okq (⟨"DeskDaysModel", "dayHere", "()I"⟩, 70) := ⟨⟨by decide +kernel, by decide +kernel⟩, List.mem_of_getElem? (i := 1359) (by decide +kernel), List.mem_of_getElem? (i := 1698) (by decide +kernel), List.mem_of_getElem? (i := 1699) (by decide +kernel)⟩
theorem lw_p83 : lw_okq (⟨"DeskDaysModel", "liking", "()V"⟩, 70) := ⟨⟨by decide +kernel, by decide +kernel⟩, List.mem_of_getElem? (i := 1359) (by decide +kernel), List.mem_of_getElem? (i := 1702) (by decide +kernel), List.mem_of_getElem? (i := 1703) (by decide +kernel)⟩
theorem lw_p84 : lw_okq (⟨"DeskDaysModel", "tie", "()V"⟩, 70) := ⟨⟨by decide +kernel, by decide +kernel⟩, List.mem_of_getElem? (i := 1359) (by decide +kernel), List.mem_of_getElem? (i := 1706) (by decide +kernel), List.mem_of_getElem? (i := 1707) (by decide +kernel)⟩
theorem lw_p85 : lw_okq (⟨"DeskDaysModel", "coming", "()V"⟩, 70) := ⟨⟨by decide +kernel, by decide +kernel⟩, List.mem_of_getElem? (i := 1359) (by decide +kernel), List.mem_of_getElem? (i := 1710) (by decide +kernel), List.mem_of_getElem? (i := 1711) (by decide +kernel)⟩
theorem lw_p86 : lw_okq (⟨"DeskDaysModel", "visit", "()V"⟩, 70) := ⟨⟨by decide +kernel, by decide +kernel⟩, List.mem_of_getElem? (i := 1359) (by decide +kernel), List.mem_of_getElem? (i := 1714) (by decide +kernel), List.mem_of_getElem? (i := 1715) (by decide +kernel)⟩
theorem lw_p87 : lw_okq (⟨"DeskDaysModel", "others", "()V"⟩, 70) := ⟨⟨by decide +kernel, by decide +kernel⟩, List.mem_of_getElem? (i := 1359) (by decide +kernel), List.mem_of_getElem? (i := 1718) (by decide +kernel), List.mem_of_getElem? (i := 1719) (by decide +kernel)⟩
theorem lw_p88 : lw_okq (⟨"DeskDaysModel", "owns", "()V"⟩, 70) := ⟨⟨by decide +kernel, by decide +kernel⟩, List.mem_of_getElem? (i := 1359) (by decide +kernel), List.mem_of_getElem? (i := 1722) (by decide +kernel), List.mem_of_getElem? (i := 1723) (by decide +kernel)⟩
theorem lw_p89 : lw_okq (⟨"DeskDaysModel", "ownedOn", "(II)I"⟩, 70) := ⟨⟨by decide +kernel, by decide +kernel⟩, List.mem_of_getElem? (i := 1359) (by decide +kernel), List.mem_of_getElem? (i := 1726) (by decide +kernel), List.mem_of_getElem? (i := 1727) (by decide +kernel)⟩
theorem lw_p90 : lw_okq (⟨"DeskDaysModel", "meeting", "()V"⟩, 70) := ⟨⟨by decide +kernel, by decide +kernel⟩, List.mem_of_getElem? (i := 1359) (by decide +kernel), List.mem_of_getElem? (i := 1730) (by decide +kernel), List.mem_of_getElem? (i := 1731) (by decide +kernel)⟩
theorem lw_p91 : lw_okq (⟨"DeskDaysModel", "turning", "()V"⟩, 70) := ⟨⟨by decide +kernel, by decide +kernel⟩, List.mem_of_getElem? (i := 1359) (by decide +kernel), List.mem_of_getElem? (i := 1734) (by decide +kernel), List.mem_of_getElem? (i := 1735) (by decide +kernel)⟩
theorem lw_p92 : lw_okq (⟨"DeskDaysModel", "standing", "()V"⟩, 70) := ⟨⟨by decide +kernel, by decide +kernel⟩, List.mem_of_getElem? (i := 1359) (by decide +kernel), List.mem_of_getElem? (i := 1738) (by decide +kernel), List.mem_of_getElem? (i := 1739) (by decide +kernel)⟩
theorem lw_p93 : lw_okq (⟨"DeskDaysModel", "rule", "()V"⟩, 70) := ⟨⟨by decide +kernel, by decide +kernel⟩, List.mem_of_getElem? (i := 1359) (by decide +kernel), List.mem_of_getElem? (i := 1742) (by decide +kernel), List.mem_of_getElem? (i := 1743) (by decide +kernel)⟩
theorem lw_p94 : lw_okq (⟨"DeskDaysModel", "reads", "(Z)V"⟩, 70) := ⟨⟨by decide +kernel, by decide +kernel⟩, List.mem_of_getElem? (i := 1359) (by decide +kernel), List.mem_of_getElem? (i := 1746) (by decide +kernel), List.mem_of_getElem? (i := 1747) (by decide +kernel)⟩
theorem lw_p95 : lw_okq (⟨"DeskDaysModel", "pushes", "(I)V"⟩, 70) := ⟨⟨by decide +kernel, by decide +kernel⟩, List.mem_of_getElem? (i := 1359) (by decide +kernel), List.mem_of_getElem? (i := 1750) (by decide +kernel), List.mem_of_getElem? (i := 1751) (by decide +kernel)⟩
def lw_privs_6 : List (MethodName × Nat) := [(⟨"DeskDaysModel", "asked", "(I)I"⟩, 70), (⟨"DeskDaysModel", "cannots", "()V"⟩, 70), (⟨"DeskDaysModel", "dayHere", "()I"⟩, 70), (⟨"DeskDaysModel", "liking", "()V"⟩, 70), (⟨"DeskDaysModel", "tie", "()V"⟩, 70), (⟨"DeskDaysModel", "coming", "()V"⟩, 70), (⟨"DeskDaysModel", "visit", "()V"⟩, 70), (⟨"DeskDaysModel", "others", "()V"⟩, 70), (⟨"DeskDaysModel", "owns", "()V"⟩, 70), (⟨"DeskDaysModel", "ownedOn", "(II)I"⟩, 70), (⟨"DeskDaysModel", "meeting", "()V"⟩, 70), (⟨"DeskDaysModel", "turning", "()V"⟩, 70), (⟨"DeskDaysModel", "standing", "()V"⟩, 70), (⟨"DeskDaysModel", "rule", "()V"⟩, 70), (⟨"DeskDaysModel", "reads", "(Z)V"⟩, 70), (⟨"DeskDaysModel", "pushes", "(I)V"⟩, 70)]
theorem lw_r6 : ∀ q ∈ lw_privs_6, lw_okq q := List.forall_mem_cons.mpr ⟨lw_p80, List.forall_mem_cons.mpr ⟨lw_p81, List.forall_mem_cons.mpr ⟨lw_p82, List.forall_mem_cons.mpr ⟨lw_p83, List.forall_mem_cons.mpr ⟨lw_p84, List.forall_mem_cons.mpr ⟨lw_p85, List.forall_mem_cons.mpr ⟨lw_p86, List.forall_mem_cons.mpr ⟨lw_p87, List.forall_mem_cons.mpr ⟨lw_p88, List.forall_mem_cons.mpr ⟨lw_p89, List.forall_mem_cons.mpr ⟨lw_p90, List.forall_mem_cons.mpr ⟨lw_p91, List.forall_mem_cons.mpr ⟨lw_p92, List.forall_mem_cons.mpr ⟨lw_p93, List.forall_mem_cons.mpr ⟨lw_p94, List.forall_mem_cons.mpr ⟨lw_p95, fun _ h => absurd h List.not_mem_nil⟩⟩⟩⟩⟩⟩⟩⟩⟩⟩⟩⟩⟩⟩⟩⟩
theorem lw_p96 : lw_okq (⟨"DeskDaysModel", "operand", "()Z"⟩, 70) := ⟨⟨by decide +kernel, by decide +kernel⟩, List.mem_of_getElem? (i := 1359) (by decide +kernel), List.mem_of_getElem? (i := 1754) (by decide +kernel), List.mem_of_getElem? (i := 1755) (by decide +kernel)⟩
theorem lw_p97 : lw_okq (⟨"DeskDaysModel", "holdsBack", "(I)V"⟩, 70) := ⟨⟨by decide +kernel, by decide +kernel⟩, List.mem_of_getElem? (i := 1359) (by decide +kernel), List.mem_of_getElem? (i := 1761) (by decide +kernel), List.mem_of_getElem? (i := 1762) (by decide +kernel)⟩
theorem lw_p98 : lw_okq (⟨"DeskDaysModel", "isSign", "(I)Z"⟩, 70) := ⟨⟨by decide +kernel, by decide +kernel⟩, List.mem_of_getElem? (i := 1359) (by decide +kernel), List.mem_of_getElem? (i := 1765) (by decide +kernel), List.mem_of_getElem? (i := 1766) (by decide +kernel)⟩
theorem lw_p99 : lw_okq (⟨"DeskDaysModel", "opens", "(I)V"⟩, 70) := ⟨⟨by decide +kernel, by decide +kernel⟩, List.mem_of_getElem? (i := 1359) (by decide +kernel), List.mem_of_getElem? (i := 1769) (by decide +kernel), List.mem_of_getElem? (i := 1770) (by decide +kernel)⟩
theorem lw_p100 : lw_okq (⟨"DeskDaysModel", "add", "(II)V"⟩, 70) := ⟨⟨by decide +kernel, by decide +kernel⟩, List.mem_of_getElem? (i := 1359) (by decide +kernel), List.mem_of_getElem? (i := 1773) (by decide +kernel), List.mem_of_getElem? (i := 1774) (by decide +kernel)⟩
theorem lw_p101 : lw_okq (⟨"DeskDaysModel", "goesOn", "()Z"⟩, 70) := ⟨⟨by decide +kernel, by decide +kernel⟩, List.mem_of_getElem? (i := 1359) (by decide +kernel), List.mem_of_getElem? (i := 1777) (by decide +kernel), List.mem_of_getElem? (i := 1778) (by decide +kernel)⟩
theorem lw_p102 : lw_okq (⟨"DeskDaysModel", "joins", "(I)V"⟩, 70) := ⟨⟨by decide +kernel, by decide +kernel⟩, List.mem_of_getElem? (i := 1359) (by decide +kernel), List.mem_of_getElem? (i := 1781) (by decide +kernel), List.mem_of_getElem? (i := 1782) (by decide +kernel)⟩
theorem lw_p103 : lw_okq (⟨"DeskDaysModel", "must", "(I)V"⟩, 70) := ⟨⟨by decide +kernel, by decide +kernel⟩, List.mem_of_getElem? (i := 1359) (by decide +kernel), List.mem_of_getElem? (i := 1788) (by decide +kernel), List.mem_of_getElem? (i := 1789) (by decide +kernel)⟩
theorem lw_p104 : lw_okq (⟨"DeskDaysModel", "desksAll", "()I"⟩, 70) := ⟨⟨by decide +kernel, by decide +kernel⟩, List.mem_of_getElem? (i := 1359) (by decide +kernel), List.mem_of_getElem? (i := 1804) (by decide +kernel), List.mem_of_getElem? (i := 1805) (by decide +kernel)⟩
theorem lw_p105 : lw_okq (⟨"DeskDaysModel", "ownedAll", "()I"⟩, 70) := ⟨⟨by decide +kernel, by decide +kernel⟩, List.mem_of_getElem? (i := 1359) (by decide +kernel), List.mem_of_getElem? (i := 1808) (by decide +kernel), List.mem_of_getElem? (i := 1809) (by decide +kernel)⟩
theorem lw_p106 : lw_okq (⟨"DeskDaysModel", "floorOf", "(I)I"⟩, 70) := ⟨⟨by decide +kernel, by decide +kernel⟩, List.mem_of_getElem? (i := 1359) (by decide +kernel), List.mem_of_getElem? (i := 1812) (by decide +kernel), List.mem_of_getElem? (i := 1813) (by decide +kernel)⟩
theorem lw_p107 : lw_okq (⟨"DeskDaysModel", "isPerson", "(I)Z"⟩, 70) := ⟨⟨by decide +kernel, by decide +kernel⟩, List.mem_of_getElem? (i := 1359) (by decide +kernel), List.mem_of_getElem? (i := 1824) (by decide +kernel), List.mem_of_getElem? (i := 1825) (by decide +kernel)⟩
theorem lw_p108 : lw_okq (⟨"DeskDaysModel", "suiting", "(I)I"⟩, 70) := ⟨⟨by decide +kernel, by decide +kernel⟩, List.mem_of_getElem? (i := 1359) (by decide +kernel), List.mem_of_getElem? (i := 1832) (by decide +kernel), List.mem_of_getElem? (i := 1833) (by decide +kernel)⟩
theorem lw_p109 : lw_okq (⟨"DeskDaysModel", "suits", "(II)Z"⟩, 70) := ⟨⟨by decide +kernel, by decide +kernel⟩, List.mem_of_getElem? (i := 1359) (by decide +kernel), List.mem_of_getElem? (i := 1836) (by decide +kernel), List.mem_of_getElem? (i := 1837) (by decide +kernel)⟩
theorem lw_p110 : lw_okq (⟨"DeskDaysModel", "inOn", "(I)I"⟩, 70) := ⟨⟨by decide +kernel, by decide +kernel⟩, List.mem_of_getElem? (i := 1359) (by decide +kernel), List.mem_of_getElem? (i := 1862) (by decide +kernel), List.mem_of_getElem? (i := 1863) (by decide +kernel)⟩
theorem lw_p111 : lw_okq (⟨"DeskDaysModel", "isIn", "(II)Z"⟩, 70) := ⟨⟨by decide +kernel, by decide +kernel⟩, List.mem_of_getElem? (i := 1359) (by decide +kernel), List.mem_of_getElem? (i := 1866) (by decide +kernel), List.mem_of_getElem? (i := 1867) (by decide +kernel)⟩
def lw_privs_7 : List (MethodName × Nat) := [(⟨"DeskDaysModel", "operand", "()Z"⟩, 70), (⟨"DeskDaysModel", "holdsBack", "(I)V"⟩, 70), (⟨"DeskDaysModel", "isSign", "(I)Z"⟩, 70), (⟨"DeskDaysModel", "opens", "(I)V"⟩, 70), (⟨"DeskDaysModel", "add", "(II)V"⟩, 70), (⟨"DeskDaysModel", "goesOn", "()Z"⟩, 70), (⟨"DeskDaysModel", "joins", "(I)V"⟩, 70), (⟨"DeskDaysModel", "must", "(I)V"⟩, 70), (⟨"DeskDaysModel", "desksAll", "()I"⟩, 70), (⟨"DeskDaysModel", "ownedAll", "()I"⟩, 70), (⟨"DeskDaysModel", "floorOf", "(I)I"⟩, 70), (⟨"DeskDaysModel", "isPerson", "(I)Z"⟩, 70), (⟨"DeskDaysModel", "suiting", "(I)I"⟩, 70), (⟨"DeskDaysModel", "suits", "(II)Z"⟩, 70), (⟨"DeskDaysModel", "inOn", "(I)I"⟩, 70), (⟨"DeskDaysModel", "isIn", "(II)Z"⟩, 70)]
theorem lw_r7 : ∀ q ∈ lw_privs_7, lw_okq q := List.forall_mem_cons.mpr ⟨lw_p96, List.forall_mem_cons.mpr ⟨lw_p97, List.forall_mem_cons.mpr ⟨lw_p98, List.forall_mem_cons.mpr ⟨lw_p99, List.forall_mem_cons.mpr ⟨lw_p100, List.forall_mem_cons.mpr ⟨lw_p101, List.forall_mem_cons.mpr ⟨lw_p102, List.forall_mem_cons.mpr ⟨lw_p103, List.forall_mem_cons.mpr ⟨lw_p104, List.forall_mem_cons.mpr ⟨lw_p105, List.forall_mem_cons.mpr ⟨lw_p106, List.forall_mem_cons.mpr ⟨lw_p107, List.forall_mem_cons.mpr ⟨lw_p108, List.forall_mem_cons.mpr ⟨lw_p109, List.forall_mem_cons.mpr ⟨lw_p110, List.forall_mem_cons.mpr ⟨lw_p111, fun _ h => absurd h List.not_mem_nil⟩⟩⟩⟩⟩⟩⟩⟩⟩⟩⟩⟩⟩⟩⟩⟩
theorem lw_p112 : lw_okq (⟨"DeskDaysModel", "standOn", "(I)I"⟩, 70) := ⟨⟨by decide +kernel, by decide +kernel⟩, List.mem_of_getElem? (i := 1359) (by decide +kernel), List.mem_of_getElem? (i := 1870) (by decide +kernel), List.mem_of_getElem? (i := 1871) (by decide +kernel)⟩
theorem lw_p113 : lw_okq (⟨"DeskDaysModel", "othersOn", "(I)I"⟩, 70) := ⟨⟨by decide +kernel, by decide +kernel⟩, List.mem_of_getElem? (i := 1359) (by decide +kernel), List.mem_of_getElem? (i := 1874) (by decide +kernel), List.mem_of_getElem? (i := 1875) (by decide +kernel)⟩
theorem lw_p114 : lw_okq (⟨"DeskDaysModel", "spare", "()I"⟩, 70) := ⟨⟨by decide +kernel, by decide +kernel⟩, List.mem_of_getElem? (i := 1359) (by decide +kernel), List.mem_of_getElem? (i := 1878) (by decide +kernel), List.mem_of_getElem? (i := 1879) (by decide +kernel)⟩
theorem lw_p115 : lw_okq (⟨"DeskDaysModel", "metOn", "(I)I"⟩, 70) := ⟨⟨by decide +kernel, by decide +kernel⟩, List.mem_of_getElem? (i := 1359) (by decide +kernel), List.mem_of_getElem? (i := 1886) (by decide +kernel), List.mem_of_getElem? (i := 1887) (by decide +kernel)⟩
theorem lw_p116 : lw_okq (⟨"DeskDaysModel", "holds", "()Z"⟩, 70) := ⟨⟨by decide +kernel, by decide +kernel⟩, List.mem_of_getElem? (i := 1359) (by decide +kernel), List.mem_of_getElem? (i := 1894) (by decide +kernel), List.mem_of_getElem? (i := 1895) (by decide +kernel)⟩
theorem lw_p117 : lw_okq (⟨"DeskDaysModel", "wrong", "(III)V"⟩, 70) := ⟨⟨by decide +kernel, by decide +kernel⟩, List.mem_of_getElem? (i := 1359) (by decide +kernel), List.mem_of_getElem? (i := 1898) (by decide +kernel), List.mem_of_getElem? (i := 1899) (by decide +kernel)⟩
theorem lw_p118 : lw_okq (⟨"DeskDaysModel", "together", "(I)I"⟩, 70) := ⟨⟨by decide +kernel, by decide +kernel⟩, List.mem_of_getElem? (i := 1359) (by decide +kernel), List.mem_of_getElem? (i := 1902) (by decide +kernel), List.mem_of_getElem? (i := 1903) (by decide +kernel)⟩
theorem lw_p119 : lw_okq (⟨"DeskDaysModel", "tied", "()I"⟩, 70) := ⟨⟨by decide +kernel, by decide +kernel⟩, List.mem_of_getElem? (i := 1359) (by decide +kernel), List.mem_of_getElem? (i := 1910) (by decide +kernel), List.mem_of_getElem? (i := 1911) (by decide +kernel)⟩
theorem lw_p120 : lw_okq (⟨"DeskDaysModel", "ruled", "(II)I"⟩, 70) := ⟨⟨by decide +kernel, by decide +kernel⟩, List.mem_of_getElem? (i := 1359) (by decide +kernel), List.mem_of_getElem? (i := 1914) (by decide +kernel), List.mem_of_getElem? (i := 1915) (by decide +kernel)⟩
theorem lw_p121 : lw_okq (⟨"DeskDaysModel", "works", "(II)J"⟩, 70) := ⟨⟨by decide +kernel, by decide +kernel⟩, List.mem_of_getElem? (i := 1359) (by decide +kernel), List.mem_of_getElem? (i := 1918) (by decide +kernel), List.mem_of_getElem? (i := 1919) (by decide +kernel)⟩
theorem lw_p122 : lw_okq (⟨"DeskDaysModel", "sought", "(I)I"⟩, 70) := ⟨⟨by decide +kernel, by decide +kernel⟩, List.mem_of_getElem? (i := 1359) (by decide +kernel), List.mem_of_getElem? (i := 1937) (by decide +kernel), List.mem_of_getElem? (i := 1938) (by decide +kernel)⟩
theorem lw_p123 : lw_okq (⟨"DeskDaysModel", "may", "(II)Z"⟩, 70) := ⟨⟨by decide +kernel, by decide +kernel⟩, List.mem_of_getElem? (i := 1359) (by decide +kernel), List.mem_of_getElem? (i := 1941) (by decide +kernel), List.mem_of_getElem? (i := 1942) (by decide +kernel)⟩
theorem lw_p124 : lw_okq (⟨"DeskDaysModel", "triedOn", "(II)I"⟩, 70) := ⟨⟨by decide +kernel, by decide +kernel⟩, List.mem_of_getElem? (i := 1359) (by decide +kernel), List.mem_of_getElem? (i := 1945) (by decide +kernel), List.mem_of_getElem? (i := 1946) (by decide +kernel)⟩
theorem lw_p125 : lw_okq (⟨"DeskDaysModel", "isLastOf", "(I)Z"⟩, 70) := ⟨⟨by decide +kernel, by decide +kernel⟩, List.mem_of_getElem? (i := 1359) (by decide +kernel), List.mem_of_getElem? (i := 1949) (by decide +kernel), List.mem_of_getElem? (i := 1950) (by decide +kernel)⟩
theorem lw_p126 : lw_okq (⟨"DeskDaysModel", "betters", "(I)Z"⟩, 70) := ⟨⟨by decide +kernel, by decide +kernel⟩, List.mem_of_getElem? (i := 1359) (by decide +kernel), List.mem_of_getElem? (i := 1966) (by decide +kernel), List.mem_of_getElem? (i := 1967) (by decide +kernel)⟩
theorem lw_p127 : lw_okq (⟨"DeskDaysModel", "isLonely", "(I)Z"⟩, 70) := ⟨⟨by decide +kernel, by decide +kernel⟩, List.mem_of_getElem? (i := 1359) (by decide +kernel), List.mem_of_getElem? (i := 1983) (by decide +kernel), List.mem_of_getElem? (i := 1984) (by decide +kernel)⟩
def lw_privs_8 : List (MethodName × Nat) := [(⟨"DeskDaysModel", "standOn", "(I)I"⟩, 70), (⟨"DeskDaysModel", "othersOn", "(I)I"⟩, 70), (⟨"DeskDaysModel", "spare", "()I"⟩, 70), (⟨"DeskDaysModel", "metOn", "(I)I"⟩, 70), (⟨"DeskDaysModel", "holds", "()Z"⟩, 70), (⟨"DeskDaysModel", "wrong", "(III)V"⟩, 70), (⟨"DeskDaysModel", "together", "(I)I"⟩, 70), (⟨"DeskDaysModel", "tied", "()I"⟩, 70), (⟨"DeskDaysModel", "ruled", "(II)I"⟩, 70), (⟨"DeskDaysModel", "works", "(II)J"⟩, 70), (⟨"DeskDaysModel", "sought", "(I)I"⟩, 70), (⟨"DeskDaysModel", "may", "(II)Z"⟩, 70), (⟨"DeskDaysModel", "triedOn", "(II)I"⟩, 70), (⟨"DeskDaysModel", "isLastOf", "(I)Z"⟩, 70), (⟨"DeskDaysModel", "betters", "(I)Z"⟩, 70), (⟨"DeskDaysModel", "isLonely", "(I)Z"⟩, 70)]
theorem lw_r8 : ∀ q ∈ lw_privs_8, lw_okq q := List.forall_mem_cons.mpr ⟨lw_p112, List.forall_mem_cons.mpr ⟨lw_p113, List.forall_mem_cons.mpr ⟨lw_p114, List.forall_mem_cons.mpr ⟨lw_p115, List.forall_mem_cons.mpr ⟨lw_p116, List.forall_mem_cons.mpr ⟨lw_p117, List.forall_mem_cons.mpr ⟨lw_p118, List.forall_mem_cons.mpr ⟨lw_p119, List.forall_mem_cons.mpr ⟨lw_p120, List.forall_mem_cons.mpr ⟨lw_p121, List.forall_mem_cons.mpr ⟨lw_p122, List.forall_mem_cons.mpr ⟨lw_p123, List.forall_mem_cons.mpr ⟨lw_p124, List.forall_mem_cons.mpr ⟨lw_p125, List.forall_mem_cons.mpr ⟨lw_p126, List.forall_mem_cons.mpr ⟨lw_p127, fun _ h => absurd h List.not_mem_nil⟩⟩⟩⟩⟩⟩⟩⟩⟩⟩⟩⟩⟩⟩⟩⟩
theorem lw_p128 : lw_okq (⟨"DeskDaysModel", "comers", "(I)V"⟩, 70) := ⟨⟨by decide +kernel, by decide +kernel⟩, List.mem_of_getElem? (i := 1359) (by decide +kernel), List.mem_of_getElem? (i := 1999) (by decide +kernel), List.mem_of_getElem? (i := 2000) (by decide +kernel)⟩
theorem lw_p129 : lw_okq (⟨"DeskDaysModel", "nobody", "()V"⟩, 70) := ⟨⟨by decide +kernel, by decide +kernel⟩, List.mem_of_getElem? (i := 1359) (by decide +kernel), List.mem_of_getElem? (i := 2003) (by decide +kernel), List.mem_of_getElem? (i := 2004) (by decide +kernel)⟩
theorem lw_p130 : lw_okq (⟨"DeskDaysModel", "oneMore", "(I)V"⟩, 70) := ⟨⟨by decide +kernel, by decide +kernel⟩, List.mem_of_getElem? (i := 1359) (by decide +kernel), List.mem_of_getElem? (i := 2008) (by decide +kernel), List.mem_of_getElem? (i := 2009) (by decide +kernel)⟩
theorem lw_p131 : lw_okq (⟨"DeskDaysModel", "above", "(I)J"⟩, 70) := ⟨⟨by decide +kernel, by decide +kernel⟩, List.mem_of_getElem? (i := 1359) (by decide +kernel), List.mem_of_getElem? (i := 2013) (by decide +kernel), List.mem_of_getElem? (i := 2014) (by decide +kernel)⟩
theorem lw_p132 : lw_okq (⟨"DeskDaysModel", "drawn", "(I)I"⟩, 70) := ⟨⟨by decide +kernel, by decide +kernel⟩, List.mem_of_getElem? (i := 1359) (by decide +kernel), List.mem_of_getElem? (i := 2034) (by decide +kernel), List.mem_of_getElem? (i := 2035) (by decide +kernel)⟩
theorem lw_p133 : lw_okq (⟨"DeskDaysModel", "aloneOf", "(II)I"⟩, 70) := ⟨⟨by decide +kernel, by decide +kernel⟩, List.mem_of_getElem? (i := 1359) (by decide +kernel), List.mem_of_getElem? (i := 2050) (by decide +kernel), List.mem_of_getElem? (i := 2051) (by decide +kernel)⟩
theorem lw_p134 : lw_okq (⟨"DeskDaysModel", "round", "()Z"⟩, 70) := ⟨⟨by decide +kernel, by decide +kernel⟩, List.mem_of_getElem? (i := 1359) (by decide +kernel), List.mem_of_getElem? (i := 2058) (by decide +kernel), List.mem_of_getElem? (i := 2059) (by decide +kernel)⟩
theorem lw_p135 : lw_okq (⟨"DeskDaysModel", "seats", "(I)V"⟩, 70) := ⟨⟨by decide +kernel, by decide +kernel⟩, List.mem_of_getElem? (i := 1359) (by decide +kernel), List.mem_of_getElem? (i := 2066) (by decide +kernel), List.mem_of_getElem? (i := 2067) (by decide +kernel)⟩
theorem lw_p136 : lw_okq (⟨"DeskDaysModel", "sitting", "(IZ)I"⟩, 70) := ⟨⟨by decide +kernel, by decide +kernel⟩, List.mem_of_getElem? (i := 1359) (by decide +kernel), List.mem_of_getElem? (i := 2070) (by decide +kernel), List.mem_of_getElem? (i := 2071) (by decide +kernel)⟩
theorem lw_p137 : lw_okq (⟨"DeskDaysModel", "tiesWith", "(II)I"⟩, 70) := ⟨⟨by decide +kernel, by decide +kernel⟩, List.mem_of_getElem? (i := 1359) (by decide +kernel), List.mem_of_getElem? (i := 2074) (by decide +kernel), List.mem_of_getElem? (i := 2075) (by decide +kernel)⟩
theorem lw_p138 : lw_okq (⟨"DeskDaysModel", "exchanged", "()I"⟩, 70) := ⟨⟨by decide +kernel, by decide +kernel⟩, List.mem_of_getElem? (i := 1359) (by decide +kernel), List.mem_of_getElem? (i := 2078) (by decide +kernel), List.mem_of_getElem? (i := 2079) (by decide +kernel)⟩
theorem lw_p139 : lw_okq (⟨"DeskDaysModel", "exchanges", "()Z"⟩, 70) := ⟨⟨by decide +kernel, by decide +kernel⟩, List.mem_of_getElem? (i := 1359) (by decide +kernel), List.mem_of_getElem? (i := 2082) (by decide +kernel), List.mem_of_getElem? (i := 2083) (by decide +kernel)⟩
theorem lw_p140 : lw_okq (⟨"DeskDaysModel", "fitOf", "()I"⟩, 70) := ⟨⟨by decide +kernel, by decide +kernel⟩, List.mem_of_getElem? (i := 1359) (by decide +kernel), List.mem_of_getElem? (i := 2086) (by decide +kernel), List.mem_of_getElem? (i := 2087) (by decide +kernel)⟩
theorem lw_p141 : lw_okq (⟨"DeskDaysModel", "isMovable", "(I)Z"⟩, 70) := ⟨⟨by decide +kernel, by decide +kernel⟩, List.mem_of_getElem? (i := 1359) (by decide +kernel), List.mem_of_getElem? (i := 2090) (by decide +kernel), List.mem_of_getElem? (i := 2091) (by decide +kernel)⟩
theorem lw_p142 : lw_okq (⟨"DeskDaysModel", "change", "(II)V"⟩, 70) := ⟨⟨by decide +kernel, by decide +kernel⟩, List.mem_of_getElem? (i := 1359) (by decide +kernel), List.mem_of_getElem? (i := 2094) (by decide +kernel), List.mem_of_getElem? (i := 2095) (by decide +kernel)⟩
theorem lw_p143 : lw_okq (⟨"DeskDaysModel", "ownerIn", "(II)Z"⟩, 70) := ⟨⟨by decide +kernel, by decide +kernel⟩, List.mem_of_getElem? (i := 1359) (by decide +kernel), List.mem_of_getElem? (i := 2106) (by decide +kernel), List.mem_of_getElem? (i := 2107) (by decide +kernel)⟩
def lw_privs_9 : List (MethodName × Nat) := [(⟨"DeskDaysModel", "comers", "(I)V"⟩, 70), (⟨"DeskDaysModel", "nobody", "()V"⟩, 70), (⟨"DeskDaysModel", "oneMore", "(I)V"⟩, 70), (⟨"DeskDaysModel", "above", "(I)J"⟩, 70), (⟨"DeskDaysModel", "drawn", "(I)I"⟩, 70), (⟨"DeskDaysModel", "aloneOf", "(II)I"⟩, 70), (⟨"DeskDaysModel", "round", "()Z"⟩, 70), (⟨"DeskDaysModel", "seats", "(I)V"⟩, 70), (⟨"DeskDaysModel", "sitting", "(IZ)I"⟩, 70), (⟨"DeskDaysModel", "tiesWith", "(II)I"⟩, 70), (⟨"DeskDaysModel", "exchanged", "()I"⟩, 70), (⟨"DeskDaysModel", "exchanges", "()Z"⟩, 70), (⟨"DeskDaysModel", "fitOf", "()I"⟩, 70), (⟨"DeskDaysModel", "isMovable", "(I)Z"⟩, 70), (⟨"DeskDaysModel", "change", "(II)V"⟩, 70), (⟨"DeskDaysModel", "ownerIn", "(II)Z"⟩, 70)]
theorem lw_r9 : ∀ q ∈ lw_privs_9, lw_okq q := List.forall_mem_cons.mpr ⟨lw_p128, List.forall_mem_cons.mpr ⟨lw_p129, List.forall_mem_cons.mpr ⟨lw_p130, List.forall_mem_cons.mpr ⟨lw_p131, List.forall_mem_cons.mpr ⟨lw_p132, List.forall_mem_cons.mpr ⟨lw_p133, List.forall_mem_cons.mpr ⟨lw_p134, List.forall_mem_cons.mpr ⟨lw_p135, List.forall_mem_cons.mpr ⟨lw_p136, List.forall_mem_cons.mpr ⟨lw_p137, List.forall_mem_cons.mpr ⟨lw_p138, List.forall_mem_cons.mpr ⟨lw_p139, List.forall_mem_cons.mpr ⟨lw_p140, List.forall_mem_cons.mpr ⟨lw_p141, List.forall_mem_cons.mpr ⟨lw_p142, List.forall_mem_cons.mpr ⟨lw_p143, fun _ h => absurd h List.not_mem_nil⟩⟩⟩⟩⟩⟩⟩⟩⟩⟩⟩⟩⟩⟩⟩⟩
theorem lw_p144 : lw_okq (⟨"DeskDaysModel", "neverIn", "(I)I"⟩, 70) := ⟨⟨by decide +kernel, by decide +kernel⟩, List.mem_of_getElem? (i := 1359) (by decide +kernel), List.mem_of_getElem? (i := 2114) (by decide +kernel), List.mem_of_getElem? (i := 2115) (by decide +kernel)⟩
theorem lw_p145 : lw_okq (⟨"DeskDaysModel", "turned", "(II)I"⟩, 70) := ⟨⟨by decide +kernel, by decide +kernel⟩, List.mem_of_getElem? (i := 1359) (by decide +kernel), List.mem_of_getElem? (i := 2118) (by decide +kernel), List.mem_of_getElem? (i := 2119) (by decide +kernel)⟩
theorem lw_p146 : lw_okq (⟨"DeskDaysModel", "writes", "(I)V"⟩, 70) := ⟨⟨by decide +kernel, by decide +kernel⟩, List.mem_of_getElem? (i := 1359) (by decide +kernel), List.mem_of_getElem? (i := 2138) (by decide +kernel), List.mem_of_getElem? (i := 2139) (by decide +kernel)⟩
def lw_privs_10 : List (MethodName × Nat) := [(⟨"DeskDaysModel", "neverIn", "(I)I"⟩, 70), (⟨"DeskDaysModel", "turned", "(II)I"⟩, 70), (⟨"DeskDaysModel", "writes", "(I)V"⟩, 70)]
theorem lw_r10 : ∀ q ∈ lw_privs_10, lw_okq q := List.forall_mem_cons.mpr ⟨lw_p144, List.forall_mem_cons.mpr ⟨lw_p145, List.forall_mem_cons.mpr ⟨lw_p146, fun _ h => absurd h List.not_mem_nil⟩⟩⟩
def lw_privs : List (MethodName × Nat) := lw_privs_1 ++ (lw_privs_2 ++ (lw_privs_3 ++ (lw_privs_4 ++ (lw_privs_5 ++ (lw_privs_6 ++ (lw_privs_7 ++ (lw_privs_8 ++ (lw_privs_9 ++ (lw_privs_10)))))))))
def lw_tbl : List Cond := k2_sels lw_privs ++ tables_1
theorem lw_privs_ok : ∀ q ∈ lw_privs, lw_okq q := by
  show ∀ q ∈ lw_privs_1 ++ (lw_privs_2 ++ (lw_privs_3 ++ (lw_privs_4 ++ (lw_privs_5 ++ (lw_privs_6 ++ (lw_privs_7 ++ (lw_privs_8 ++ (lw_privs_9 ++ (lw_privs_10))))))))), lw_okq q
  exact List.forall_mem_append.mpr ⟨lw_r1, List.forall_mem_append.mpr ⟨lw_r2, List.forall_mem_append.mpr ⟨lw_r3, List.forall_mem_append.mpr ⟨lw_r4, List.forall_mem_append.mpr ⟨lw_r5, List.forall_mem_append.mpr ⟨lw_r6, List.forall_mem_append.mpr ⟨lw_r7, List.forall_mem_append.mpr ⟨lw_r8, List.forall_mem_append.mpr ⟨lw_r9, lw_r10⟩⟩⟩⟩⟩⟩⟩⟩⟩
end
section
def RX0 : String := "DeskDays$Chances"
def TX0 : u_T := fun k => match k with
  | 0 => ("DeskDays$Chances", "likelihood", "[J", true)
  | _ => ("DeskDays$Chances", "comers", "I", false)
def tyX0 : Nat → FieldType := fun k => match k with
  | 0 => .array .long
  | _ => .int
abbrev wsX00 : List Cond := u_ws RX0 TX0 2
theorem nmX0 : ∀ a, a < 2 → ∀ b, b < 2 → a ≠ b → (TX0 a).2.1 ≠ (TX0 b).2.1 := by decide +kernel
theorem tyX0_ok : ∀ k, k < 2 → parseFieldDescriptor (TX0 k).2.2.1 = some (tyX0 k) := by decide +kernel
abbrev cX0_init : ByteArray := prog_2_method_1_code
def yX0_init : MethodName := ⟨RX0, "<init>", "()V"⟩
abbrev cX0_begin : ByteArray := prog_2_method_2_code
def yX0_begin : MethodName := ⟨RX0, "begin", "()V"⟩
abbrev cX0_admit : ByteArray := prog_2_method_3_code
def yX0_admit : MethodName := ⟨RX0, "admit", "(I)V"⟩
abbrev cX0_gather : ByteArray := prog_2_method_4_code
def yX0_gather : MethodName := ⟨RX0, "gather", "(LDeskDays$Plan;I)V"⟩
abbrev cX0_above : ByteArray := prog_2_method_5_code
def yX0_above : MethodName := ⟨RX0, "above", "(I)J"⟩
abbrev cX0_meanAbove : ByteArray := prog_2_method_6_code
def yX0_meanAbove : MethodName := ⟨RX0, "meanAbove", "(I)J"⟩
abbrev cX0_mostBookings : ByteArray := prog_2_method_7_code
def yX0_mostBookings : MethodName := ⟨RX0, "mostBookings", "(III)I"⟩
def RX1 : String := "DeskDays$Floors"
def TX1 : u_T := fun k => match k with
  | 0 => ("DeskDays$Floors", "count", "I", false)
  | 1 => ("DeskDays$Floors", "allDesks", "I", false)
  | 2 => ("DeskDays$Floors", "allOwned", "I", false)
  | 3 => ("DeskDays$Floors", "name", "[I", true)
  | 4 => ("DeskDays$Floors", "desks", "[I", true)
  | 5 => ("DeskDays$Floors", "noise", "[I", true)
  | 6 => ("DeskDays$Floors", "cost", "[I", true)
  | _ => ("DeskDays$Floors", "owned", "[I", true)
def tyX1 : Nat → FieldType := fun k => match k with
  | 0 => .int
  | 1 => .int
  | 2 => .int
  | 3 => .array .int
  | 4 => .array .int
  | 5 => .array .int
  | 6 => .array .int
  | _ => .array .int
abbrev wsX10 : List Cond := u_ws RX1 TX1 8
theorem nmX1 : ∀ a, a < 8 → ∀ b, b < 8 → a ≠ b → (TX1 a).2.1 ≠ (TX1 b).2.1 := by decide +kernel
theorem tyX1_ok : ∀ k, k < 8 → parseFieldDescriptor (TX1 k).2.2.1 = some (tyX1 k) := by decide +kernel
abbrev cX1_init : ByteArray := prog_3_method_1_code
def yX1_init : MethodName := ⟨RX1, "<init>", "()V"⟩
abbrev cX1_clear : ByteArray := prog_3_method_2_code
def yX1_clear : MethodName := ⟨RX1, "clear", "()V"⟩
abbrev cX1_add : ByteArray := prog_3_method_3_code
def yX1_add : MethodName := ⟨RX1, "add", "(IIII)V"⟩
def RX2 : String := "DeskDays$House"
def TX2 : u_T := fun k => match k with
  | 0 => ("DeskDays$House", "floors", "LDeskDays$Floors;", true)
  | 1 => ("DeskDays$House", "people", "LDeskDays$People;", true)
  | 2 => ("DeskDays$House", "rules", "LDeskDays$Rules;", true)
  | 3 => ("DeskDays$House", "teams", "I", false)
  | 4 => ("DeskDays$House", "teamName", "[I", true)
  | 5 => ("DeskDays$House", "mustMeet", "[Z", true)
  | 6 => ("DeskDays$House", "lastMember", "[I", true)
  | 7 => ("DeskDays$House", "ties", "I", false)
  | 8 => ("DeskDays$House", "tieFirst", "[I", true)
  | 9 => ("DeskDays$House", "tieSecond", "[I", true)
  | 10 => ("DeskDays$House", "tieNumber", "[I", true)
  | 11 => ("DeskDays$House", "visitors", "[I", true)
  | 12 => ("DeskDays$House", "visitComes", "[I", true)
  | _ => ("DeskDays$House", "stand", "I", false)
def tyX2 : Nat → FieldType := fun k => match k with
  | 0 => .object "DeskDays$Floors"
  | 1 => .object "DeskDays$People"
  | 2 => .object "DeskDays$Rules"
  | 3 => .int
  | 4 => .array .int
  | 5 => .array .boolean
  | 6 => .array .int
  | 7 => .int
  | 8 => .array .int
  | 9 => .array .int
  | 10 => .array .int
  | 11 => .array .int
  | 12 => .array .int
  | _ => .int
abbrev wsX20 : List Cond := u_ws RX2 TX2 14
theorem nmX2 : ∀ a, a < 14 → ∀ b, b < 14 → a ≠ b → (TX2 a).2.1 ≠ (TX2 b).2.1 := by decide +kernel
theorem tyX2_ok : ∀ k, k < 14 → parseFieldDescriptor (TX2 k).2.2.1 = some (tyX2 k) := by decide +kernel
abbrev cX2_init : ByteArray := prog_4_method_1_code
def yX2_init : MethodName := ⟨RX2, "<init>", "()V"⟩
abbrev cX2_clear : ByteArray := prog_4_method_2_code
def yX2_clear : MethodName := ⟨RX2, "clear", "()V"⟩
abbrev cX2_addTeam : ByteArray := prog_4_method_3_code
def yX2_addTeam : MethodName := ⟨RX2, "addTeam", "(I)V"⟩
abbrev cX2_addTie : ByteArray := prog_4_method_4_code
def yX2_addTie : MethodName := ⟨RX2, "addTie", "(III)V"⟩
abbrev cX2_finish : ByteArray := prog_4_method_5_code
def yX2_finish : MethodName := ⟨RX2, "finish", "()V"⟩
abbrev cX2_findFloor : ByteArray := prog_4_method_6_code
def yX2_findFloor : MethodName := ⟨RX2, "findFloor", "(I)I"⟩
abbrev cX2_findTeam : ByteArray := prog_4_method_7_code
def yX2_findTeam : MethodName := ⟨RX2, "findTeam", "(I)I"⟩
abbrev cX2_findPerson : ByteArray := prog_4_method_8_code
def yX2_findPerson : MethodName := ⟨RX2, "findPerson", "(I)I"⟩
abbrev cX2_find : ByteArray := prog_4_method_9_code
def yX2_find : MethodName := ⟨RX2, "find", "([III)I"⟩
abbrev cX2_isNamed : ByteArray := prog_4_method_10_code
def yX2_isNamed : MethodName := ⟨RX2, "isNamed", "(I)Z"⟩
abbrev cX2_meetingTeams : ByteArray := prog_4_method_11_code
def yX2_meetingTeams : MethodName := ⟨RX2, "meetingTeams", "()I"⟩
abbrev cX2_tieBound : ByteArray := prog_4_method_12_code
def yX2_tieBound : MethodName := ⟨RX2, "tieBound", "()I"⟩
def RX3 : String := "DeskDays$People"
def TX3 : u_T := fun k => match k with
  | 0 => ("DeskDays$People", "count", "I", false)
  | 1 => ("DeskDays$People", "name", "[I", true)
  | 2 => ("DeskDays$People", "team", "[I", true)
  | 3 => ("DeskDays$People", "days", "[I", true)
  | 4 => ("DeskDays$People", "cannot", "[I", true)
  | 5 => ("DeskDays$People", "comes", "[I", true)
  | 6 => ("DeskDays$People", "own", "[I", true)
  | 7 => ("DeskDays$People", "turns", "[I", true)
  | 8 => ("DeskDays$People", "likes", "[I", true)
  | 9 => ("DeskDays$People", "suiting", "[I", true)
  | _ => ("DeskDays$People", "suitingCount", "[I", true)
def tyX3 : Nat → FieldType := fun k => match k with
  | 0 => .int
  | 1 => .array .int
  | 2 => .array .int
  | 3 => .array .int
  | 4 => .array .int
  | 5 => .array .int
  | 6 => .array .int
  | 7 => .array .int
  | 8 => .array .int
  | 9 => .array .int
  | _ => .array .int
abbrev wsX30 : List Cond := u_ws RX3 TX3 11
theorem nmX3 : ∀ a, a < 11 → ∀ b, b < 11 → a ≠ b → (TX3 a).2.1 ≠ (TX3 b).2.1 := by decide +kernel
theorem tyX3_ok : ∀ k, k < 11 → parseFieldDescriptor (TX3 k).2.2.1 = some (tyX3 k) := by decide +kernel
abbrev cX3_init : ByteArray := prog_5_method_1_code
def yX3_init : MethodName := ⟨RX3, "<init>", "()V"⟩
abbrev cX3_add : ByteArray := prog_5_method_2_code
def yX3_add : MethodName := ⟨RX3, "add", "(III)V"⟩
abbrev cX3_isSuited : ByteArray := prog_5_method_3_code
def yX3_isSuited : MethodName := ⟨RX3, "isSuited", "(II)Z"⟩
abbrev cX3_listSuiting : ByteArray := prog_5_method_4_code
def yX3_listSuiting : MethodName := ⟨RX3, "listSuiting", "()V"⟩
def RX4 : String := "DeskDays$Plan"
def TX4 : u_T := fun k => match k with
  | 0 => ("DeskDays$Plan", "house", "LDeskDays$House;", false)
  | 1 => ("DeskDays$Plan", "sets", "[I", true)
  | 2 => ("DeskDays$Plan", "wrong", "I", false)
  | 3 => ("DeskDays$Plan", "wrongWhich", "I", false)
  | 4 => ("DeskDays$Plan", "wrongDay", "I", false)
  | _ => ("DeskDays$Plan", "ruled", "[I", true)
def tyX4 : Nat → FieldType := fun k => match k with
  | 0 => .object "DeskDays$House"
  | 1 => .array .int
  | 2 => .int
  | 3 => .int
  | 4 => .int
  | _ => .array .int
abbrev wsX40 : List Cond := u_ws RX4 TX4 6
theorem nmX4 : ∀ a, a < 6 → ∀ b, b < 6 → a ≠ b → (TX4 a).2.1 ≠ (TX4 b).2.1 := by decide +kernel
theorem tyX4_ok : ∀ k, k < 6 → parseFieldDescriptor (TX4 k).2.2.1 = some (tyX4 k) := by decide +kernel
abbrev cX4_init : ByteArray := prog_6_method_1_code
def yX4_init : MethodName := ⟨RX4, "<init>", "(LDeskDays$House;)V"⟩
abbrev cX4_begin : ByteArray := prog_6_method_2_code
def yX4_begin : MethodName := ⟨RX4, "begin", "(LDeskDays$House;)V"⟩
abbrev cX4_isIn : ByteArray := prog_6_method_3_code
def yX4_isIn : MethodName := ⟨RX4, "isIn", "(II)Z"⟩
abbrev cX4_inCount : ByteArray := prog_6_method_4_code
def yX4_inCount : MethodName := ⟨RX4, "inCount", "(I)I"⟩
abbrev cX4_inWithoutOwn : ByteArray := prog_6_method_5_code
def yX4_inWithoutOwn : MethodName := ⟨RX4, "inWithoutOwn", "(I)I"⟩
abbrev cX4_standing : ByteArray := prog_6_method_6_code
def yX4_standing : MethodName := ⟨RX4, "standing", "(I)I"⟩
abbrev cX4_holds : ByteArray := prog_6_method_7_code
def yX4_holds : MethodName := ⟨RX4, "holds", "()Z"⟩
abbrev cX4_examine : ByteArray := prog_6_method_8_code
def yX4_examine : MethodName := ⟨RX4, "examine", "()V"⟩
abbrev cX4_findForbiddenDay : ByteArray := prog_6_method_9_code
def yX4_findForbiddenDay : MethodName := ⟨RX4, "findForbiddenDay", "()V"⟩
abbrev cX4_findOtherNumber : ByteArray := prog_6_method_10_code
def yX4_findOtherNumber : MethodName := ⟨RX4, "findOtherNumber", "()V"⟩
abbrev cX4_findStanding : ByteArray := prog_6_method_11_code
def yX4_findStanding : MethodName := ⟨RX4, "findStanding", "()V"⟩
abbrev cX4_findTeamApart : ByteArray := prog_6_method_12_code
def yX4_findTeamApart : MethodName := ⟨RX4, "findTeamApart", "()V"⟩
abbrev cX4_commonDays : ByteArray := prog_6_method_13_code
def yX4_commonDays : MethodName := ⟨RX4, "commonDays", "([II)I"⟩
abbrev cX4_metDays : ByteArray := prog_6_method_14_code
def yX4_metDays : MethodName := ⟨RX4, "metDays", "(I)I"⟩
abbrev cX4_tieWorth : ByteArray := prog_6_method_15_code
def yX4_tieWorth : MethodName := ⟨RX4, "tieWorth", "()I"⟩
abbrev cX4_total : ByteArray := prog_6_method_16_code
def yX4_total : MethodName := ⟨RX4, "total", "()I"⟩
abbrev cX4_ruledSum : ByteArray := prog_6_method_17_code
def yX4_ruledSum : MethodName := ⟨RX4, "ruledSum", "(III)I"⟩
abbrev cX4_greatestUnmet : ByteArray := prog_6_method_18_code
def yX4_greatestUnmet : MethodName := ⟨RX4, "greatestUnmet", "()I"⟩
abbrev cX4_unmetTies : ByteArray := prog_6_method_19_code
def yX4_unmetTies : MethodName := ⟨RX4, "unmetTies", "()I"⟩
abbrev cX4_lonelyPersons : ByteArray := prog_6_method_20_code
def yX4_lonelyPersons : MethodName := ⟨RX4, "lonelyPersons", "()I"⟩
abbrev cX4_isLonely : ByteArray := prog_6_method_21_code
def yX4_isLonely : MethodName := ⟨RX4, "isLonely", "(I)Z"⟩
abbrev cX4_aloneWith : ByteArray := prog_6_method_22_code
def yX4_aloneWith : MethodName := ⟨RX4, "aloneWith", "(II)I"⟩
abbrev cX4_roundsTillRest : ByteArray := prog_6_method_23_code
def yX4_roundsTillRest : MethodName := ⟨RX4, "roundsTillRest", "(I)I"⟩
abbrev cX4_goRound : ByteArray := prog_6_method_24_code
def yX4_goRound : MethodName := ⟨RX4, "goRound", "()Z"⟩
abbrev cX4_choiceAlone : ByteArray := prog_6_method_25_code
def yX4_choiceAlone : MethodName := ⟨RX4, "choiceAlone", "(I)I"⟩
abbrev cX4_unmetWithin : ByteArray := prog_6_method_26_code
def yX4_unmetWithin : MethodName := ⟨RX4, "unmetWithin", "(I)I"⟩
abbrev cX4_turnedSet : ByteArray := prog_6_method_27_code
def yX4_turnedSet : MethodName := ⟨RX4, "turnedSet", "(II)I"⟩
abbrev cX4_setsForOneMore : ByteArray := prog_6_method_28_code
def yX4_setsForOneMore : MethodName := ⟨RX4, "setsForOneMore", "(I)I"⟩
def RX5 : String := "DeskDays$Reader"
def TX5 : u_T := fun k => match k with
  | 0 => ("DeskDays$Reader", "text", "[I", true)
  | 1 => ("DeskDays$Reader", "size", "I", false)
  | 2 => ("DeskDays$Reader", "at", "I", false)
  | 3 => ("DeskDays$Reader", "start", "I", false)
  | 4 => ("DeskDays$Reader", "kind", "I", false)
  | 5 => ("DeskDays$Reader", "value", "I", false)
  | 6 => ("DeskDays$Reader", "ownWord", "I", false)
  | 7 => ("DeskDays$Reader", "fault", "I", false)
  | 8 => ("DeskDays$Reader", "place", "I", false)
  | _ => ("DeskDays$Reader", "ownCodes", "[I", true)
def tyX5 : Nat → FieldType := fun k => match k with
  | 0 => .array .int
  | 1 => .int
  | 2 => .int
  | 3 => .int
  | 4 => .int
  | 5 => .int
  | 6 => .int
  | 7 => .int
  | 8 => .int
  | _ => .array .int
abbrev wsX50 : List Cond := u_ws RX5 TX5 10
theorem nmX5 : ∀ a, a < 10 → ∀ b, b < 10 → a ≠ b → (TX5 a).2.1 ≠ (TX5 b).2.1 := by decide +kernel
theorem tyX5_ok : ∀ k, k < 10 → parseFieldDescriptor (TX5 k).2.2.1 = some (tyX5 k) := by decide +kernel
abbrev cX5_init : ByteArray := prog_7_method_1_code
def yX5_init : MethodName := ⟨RX5, "<init>", "([I)V"⟩
abbrev cX5_listOwnWords : ByteArray := prog_7_method_2_code
def yX5_listOwnWords : MethodName := ⟨RX5, "listOwnWords", "()V"⟩
abbrev cX5_withLetter : ByteArray := prog_7_method_3_code
def yX5_withLetter : MethodName := ⟨RX5, "withLetter", "(II)I"⟩
abbrev cX5_begin : ByteArray := prog_7_method_4_code
def yX5_begin : MethodName := ⟨RX5, "begin", "(I)V"⟩
abbrev cX5_isFailed : ByteArray := prog_7_method_5_code
def yX5_isFailed : MethodName := ⟨RX5, "isFailed", "()Z"⟩
abbrev cX5_fail : ByteArray := prog_7_method_6_code
def yX5_fail : MethodName := ⟨RX5, "fail", "(I)V"⟩
abbrev cX5_failAt : ByteArray := prog_7_method_7_code
def yX5_failAt : MethodName := ⟨RX5, "failAt", "(II)V"⟩
abbrev cX5_isOver : ByteArray := prog_7_method_8_code
def yX5_isOver : MethodName := ⟨RX5, "isOver", "()Z"⟩
abbrev cX5_isSign : ByteArray := prog_7_method_9_code
def yX5_isSign : MethodName := ⟨RX5, "isSign", "(I)Z"⟩
abbrev cX5_isNumber : ByteArray := prog_7_method_10_code
def yX5_isNumber : MethodName := ⟨RX5, "isNumber", "()Z"⟩
abbrev cX5_isName : ByteArray := prog_7_method_11_code
def yX5_isName : MethodName := ⟨RX5, "isName", "()Z"⟩
abbrev cX5_takeSign : ByteArray := prog_7_method_12_code
def yX5_takeSign : MethodName := ⟨RX5, "takeSign", "(I)V"⟩
abbrev cX5_takeOwnWord : ByteArray := prog_7_method_13_code
def yX5_takeOwnWord : MethodName := ⟨RX5, "takeOwnWord", "(I)V"⟩
abbrev cX5_take : ByteArray := prog_7_method_14_code
def yX5_take : MethodName := ⟨RX5, "take", "()V"⟩
abbrev cX5_takeLetters : ByteArray := prog_7_method_15_code
def yX5_takeLetters : MethodName := ⟨RX5, "takeLetters", "()V"⟩
abbrev cX5_takeDigits : ByteArray := prog_7_method_16_code
def yX5_takeDigits : MethodName := ⟨RX5, "takeDigits", "()V"⟩
abbrev cX5_isBlank : ByteArray := prog_7_method_17_code
def yX5_isBlank : MethodName := ⟨RX5, "isBlank", "(I)Z"⟩
abbrev cX5_isLetter : ByteArray := prog_7_method_18_code
def yX5_isLetter : MethodName := ⟨RX5, "isLetter", "(I)Z"⟩
abbrev cX5_isDigit : ByteArray := prog_7_method_19_code
def yX5_isDigit : MethodName := ⟨RX5, "isDigit", "(I)Z"⟩
def RX6 : String := "DeskDays$RuleReader"
def TX6 : u_T := fun k => match k with
  | 0 => ("DeskDays$RuleReader", "reader", "LDeskDays$Reader;", true)
  | _ => ("DeskDays$RuleReader", "rules", "LDeskDays$Rules;", false)
def tyX6 : Nat → FieldType := fun k => match k with
  | 0 => .object "DeskDays$Reader"
  | _ => .object "DeskDays$Rules"
abbrev wsX60 : List Cond := u_ws RX6 TX6 2
theorem nmX6 : ∀ a, a < 2 → ∀ b, b < 2 → a ≠ b → (TX6 a).2.1 ≠ (TX6 b).2.1 := by decide +kernel
theorem tyX6_ok : ∀ k, k < 2 → parseFieldDescriptor (TX6 k).2.2.1 = some (tyX6 k) := by decide +kernel
abbrev cX6_init : ByteArray := prog_8_method_1_code
def yX6_init : MethodName := ⟨RX6, "<init>", "(LDeskDays$Reader;LDeskDays$Rules;)V"⟩
abbrev cX6_read : ByteArray := prog_8_method_2_code
def yX6_read : MethodName := ⟨RX6, "read", "(LDeskDays$Rules;)V"⟩
abbrev cX6_readTest : ByteArray := prog_8_method_3_code
def yX6_readTest : MethodName := ⟨RX6, "readTest", "(I)V"⟩
abbrev cX6_readBoth : ByteArray := prog_8_method_4_code
def yX6_readBoth : MethodName := ⟨RX6, "readBoth", "(I)V"⟩
abbrev cX6_readFact : ByteArray := prog_8_method_5_code
def yX6_readFact : MethodName := ⟨RX6, "readFact", "(I)V"⟩
abbrev cX6_takeComparison : ByteArray := prog_8_method_6_code
def yX6_takeComparison : MethodName := ⟨RX6, "takeComparison", "()I"⟩
abbrev cX6_readSum : ByteArray := prog_8_method_7_code
def yX6_readSum : MethodName := ⟨RX6, "readSum", "(I)V"⟩
abbrev cX6_readProduct : ByteArray := prog_8_method_8_code
def yX6_readProduct : MethodName := ⟨RX6, "readProduct", "(I)V"⟩
abbrev cX6_productKind : ByteArray := prog_8_method_9_code
def yX6_productKind : MethodName := ⟨RX6, "productKind", "()I"⟩
abbrev cX6_readPart : ByteArray := prog_8_method_10_code
def yX6_readPart : MethodName := ⟨RX6, "readPart", "(I)V"⟩
abbrev cX6_readPair : ByteArray := prog_8_method_11_code
def yX6_readPair : MethodName := ⟨RX6, "readPair", "(II)V"⟩
abbrev cX6_takeOpening : ByteArray := prog_8_method_12_code
def yX6_takeOpening : MethodName := ⟨RX6, "takeOpening", "(II)Z"⟩
abbrev cX6_addTaken : ByteArray := prog_8_method_13_code
def yX6_addTaken : MethodName := ⟨RX6, "addTaken", "(II)V"⟩
def RX7 : String := "DeskDays$Rules"
def TX7 : u_T := fun k => match k with
  | 0 => ("DeskDays$Rules", "count", "I", false)
  | 1 => ("DeskDays$Rules", "used", "I", false)
  | 2 => ("DeskDays$Rules", "steps", "[I", true)
  | 3 => ("DeskDays$Rules", "sumFrom", "[I", true)
  | 4 => ("DeskDays$Rules", "testFrom", "[I", true)
  | 5 => ("DeskDays$Rules", "testTo", "[I", true)
  | 6 => ("DeskDays$Rules", "facts", "[I", true)
  | _ => ("DeskDays$Rules", "stack", "[I", true)
def tyX7 : Nat → FieldType := fun k => match k with
  | 0 => .int
  | 1 => .int
  | 2 => .array .int
  | 3 => .array .int
  | 4 => .array .int
  | 5 => .array .int
  | 6 => .array .int
  | _ => .array .int
abbrev wsX70 : List Cond := u_ws RX7 TX7 8
theorem nmX7 : ∀ a, a < 8 → ∀ b, b < 8 → a ≠ b → (TX7 a).2.1 ≠ (TX7 b).2.1 := by decide +kernel
theorem tyX7_ok : ∀ k, k < 8 → parseFieldDescriptor (TX7 k).2.2.1 = some (tyX7 k) := by decide +kernel
abbrev cX7_init : ByteArray := prog_9_method_1_code
def yX7_init : MethodName := ⟨RX7, "<init>", "()V"⟩
abbrev cX7_clear : ByteArray := prog_9_method_2_code
def yX7_clear : MethodName := ⟨RX7, "clear", "()V"⟩
abbrev cX7_beginSum : ByteArray := prog_9_method_3_code
def yX7_beginSum : MethodName := ⟨RX7, "beginSum", "()V"⟩
abbrev cX7_beginTest : ByteArray := prog_9_method_4_code
def yX7_beginTest : MethodName := ⟨RX7, "beginTest", "()V"⟩
abbrev cX7_close : ByteArray := prog_9_method_5_code
def yX7_close : MethodName := ⟨RX7, "close", "()V"⟩
abbrev cX7_addStep : ByteArray := prog_9_method_6_code
def yX7_addStep : MethodName := ⟨RX7, "addStep", "(II)V"⟩
abbrev cX7_firstSum : ByteArray := prog_9_method_7_code
def yX7_firstSum : MethodName := ⟨RX7, "firstSum", "(IIIII)I"⟩
abbrev cX7_run : ByteArray := prog_9_method_8_code
def yX7_run : MethodName := ⟨RX7, "run", "(II)I"⟩
abbrev cX7_given : ByteArray := prog_9_method_9_code
def yX7_given : MethodName := ⟨RX7, "given", "(II)I"⟩
abbrev cX7_joined : ByteArray := prog_9_method_10_code
def yX7_joined : MethodName := ⟨RX7, "joined", "(III)I"⟩
abbrev cX7_limited : ByteArray := prog_9_method_11_code
def yX7_limited : MethodName := ⟨RX7, "limited", "(J)I"⟩
def RX8 : String := "DeskDays$Seats"
def TX8 : u_T := fun k => match k with
  | 0 => ("DeskDays$Seats", "plan", "LDeskDays$Plan;", true)
  | 1 => ("DeskDays$Seats", "place", "[I", true)
  | _ => ("DeskDays$Seats", "freeDesks", "[I", true)
def tyX8 : Nat → FieldType := fun k => match k with
  | 0 => .object "DeskDays$Plan"
  | 1 => .array .int
  | _ => .array .int
abbrev wsX80 : List Cond := u_ws RX8 TX8 3
theorem nmX8 : ∀ a, a < 3 → ∀ b, b < 3 → a ≠ b → (TX8 a).2.1 ≠ (TX8 b).2.1 := by decide +kernel
theorem tyX8_ok : ∀ k, k < 3 → parseFieldDescriptor (TX8 k).2.2.1 = some (tyX8 k) := by decide +kernel
abbrev cX8_init : ByteArray := prog_10_method_1_code
def yX8_init : MethodName := ⟨RX8, "<init>", "(LDeskDays$Plan;)V"⟩
abbrev cX8_settle : ByteArray := prog_10_method_2_code
def yX8_settle : MethodName := ⟨RX8, "settle", "(I)V"⟩
abbrev cX8_settleBest : ByteArray := prog_10_method_3_code
def yX8_settleBest : MethodName := ⟨RX8, "settleBest", "(I)V"⟩
abbrev cX8_tiesThere : ByteArray := prog_10_method_4_code
def yX8_tiesThere : MethodName := ⟨RX8, "tiesThere", "(II)I"⟩
abbrev cX8_fitNow : ByteArray := prog_10_method_5_code
def yX8_fitNow : MethodName := ⟨RX8, "fitNow", "()I"⟩
abbrev cX8_exchangeAll : ByteArray := prog_10_method_6_code
def yX8_exchangeAll : MethodName := ⟨RX8, "exchangeAll", "()I"⟩
abbrev cX8_exchangeFirst : ByteArray := prog_10_method_7_code
def yX8_exchangeFirst : MethodName := ⟨RX8, "exchangeFirst", "()Z"⟩
abbrev cX8_isMovable : ByteArray := prog_10_method_8_code
def yX8_isMovable : MethodName := ⟨RX8, "isMovable", "(I)Z"⟩
abbrev cX8_exchange : ByteArray := prog_10_method_9_code
def yX8_exchange : MethodName := ⟨RX8, "exchange", "(II)V"⟩
abbrev cX8_dearestToShut : ByteArray := prog_10_method_10_code
def yX8_dearestToShut : MethodName := ⟨RX8, "dearestToShut", "(I)I"⟩
abbrev cX8_isOwnerIn : ByteArray := prog_10_method_11_code
def yX8_isOwnerIn : MethodName := ⟨RX8, "isOwnerIn", "(II)Z"⟩
def RX9 : String := "DeskDays$Seeker"
def TX9 : u_T := fun k => match k with
  | 0 => ("DeskDays$Seeker", "plan", "LDeskDays$Plan;", true)
  | 1 => ("DeskDays$Seeker", "looked", "I", false)
  | 2 => ("DeskDays$Seeker", "sets", "[I", true)
  | 3 => ("DeskDays$Seeker", "next", "[I", true)
  | _ => ("DeskDays$Seeker", "loads", "[I", true)
def tyX9 : Nat → FieldType := fun k => match k with
  | 0 => .object "DeskDays$Plan"
  | 1 => .int
  | 2 => .array .int
  | 3 => .array .int
  | _ => .array .int
abbrev wsX90 : List Cond := u_ws RX9 TX9 5
theorem nmX9 : ∀ a, a < 5 → ∀ b, b < 5 → a ≠ b → (TX9 a).2.1 ≠ (TX9 b).2.1 := by decide +kernel
theorem tyX9_ok : ∀ k, k < 5 → parseFieldDescriptor (TX9 k).2.2.1 = some (tyX9 k) := by decide +kernel
abbrev cX9_init : ByteArray := prog_11_method_1_code
def yX9_init : MethodName := ⟨RX9, "<init>", "(LDeskDays$Plan;)V"⟩
abbrev cX9_search : ByteArray := prog_11_method_2_code
def yX9_search : MethodName := ⟨RX9, "search", "(I)I"⟩
abbrev cX9_load : ByteArray := prog_11_method_3_code
def yX9_load : MethodName := ⟨RX9, "load", "(II)V"⟩
abbrev cX9_isFitting : ByteArray := prog_11_method_4_code
def yX9_isFitting : MethodName := ⟨RX9, "isFitting", "(II)Z"⟩
abbrev cX9_takeFound : ByteArray := prog_11_method_5_code
def yX9_takeFound : MethodName := ⟨RX9, "takeFound", "()V"⟩
abbrev cX9_fewestDesks : ByteArray := prog_11_method_6_code
def yX9_fewestDesks : MethodName := ⟨RX9, "fewestDesks", "()I"⟩
abbrev cX9_improve : ByteArray := prog_11_method_7_code
def yX9_improve : MethodName := ⟨RX9, "improve", "(I)I"⟩
abbrev cX9_bestOfTwo : ByteArray := prog_11_method_8_code
def yX9_bestOfTwo : MethodName := ⟨RX9, "bestOfTwo", "(II)I"⟩
abbrev cX9_gainOfTrade : ByteArray := prog_11_method_9_code
def yX9_gainOfTrade : MethodName := ⟨RX9, "gainOfTrade", "(II)I"⟩
abbrev cX9_exchange : ByteArray := prog_11_method_10_code
def yX9_exchange : MethodName := ⟨RX9, "exchange", "(II)V"⟩
abbrev cX9_otherSets : ByteArray := prog_11_method_11_code
def yX9_otherSets : MethodName := ⟨RX9, "otherSets", "(I)I"⟩
def RX10 : String := "DeskDays$Statements"
def TX10 : u_T := fun k => match k with
  | 0 => ("DeskDays$Statements", "reader", "LDeskDays$Reader;", true)
  | 1 => ("DeskDays$Statements", "ruleReader", "LDeskDays$RuleReader;", true)
  | 2 => ("DeskDays$Statements", "house", "LDeskDays$House;", false)
  | _ => ("DeskDays$Statements", "count", "I", false)
def tyX10 : Nat → FieldType := fun k => match k with
  | 0 => .object "DeskDays$Reader"
  | 1 => .object "DeskDays$RuleReader"
  | 2 => .object "DeskDays$House"
  | _ => .int
abbrev wsX100 : List Cond := u_ws RX10 TX10 4
theorem nmX10 : ∀ a, a < 4 → ∀ b, b < 4 → a ≠ b → (TX10 a).2.1 ≠ (TX10 b).2.1 := by decide +kernel
theorem tyX10_ok : ∀ k, k < 4 → parseFieldDescriptor (TX10 k).2.2.1 = some (tyX10 k) := by decide +kernel
abbrev cX10_init : ByteArray := prog_12_method_1_code
def yX10_init : MethodName := ⟨RX10, "<init>", "(LDeskDays$Reader;LDeskDays$House;)V"⟩
abbrev cX10_begin : ByteArray := prog_12_method_2_code
def yX10_begin : MethodName := ⟨RX10, "begin", "(LDeskDays$House;I)V"⟩
abbrev cX10_readNext : ByteArray := prog_12_method_3_code
def yX10_readNext : MethodName := ⟨RX10, "readNext", "()V"⟩
abbrev cX10_readFloor : ByteArray := prog_12_method_4_code
def yX10_readFloor : MethodName := ⟨RX10, "readFloor", "()V"⟩
abbrev cX10_readTeam : ByteArray := prog_12_method_5_code
def yX10_readTeam : MethodName := ⟨RX10, "readTeam", "()V"⟩
abbrev cX10_readPerson : ByteArray := prog_12_method_6_code
def yX10_readPerson : MethodName := ⟨RX10, "readPerson", "()V"⟩
abbrev cX10_readCannot : ByteArray := prog_12_method_7_code
def yX10_readCannot : MethodName := ⟨RX10, "readCannot", "()V"⟩
abbrev cX10_readLikes : ByteArray := prog_12_method_8_code
def yX10_readLikes : MethodName := ⟨RX10, "readLikes", "()V"⟩
abbrev cX10_readTie : ByteArray := prog_12_method_9_code
def yX10_readTie : MethodName := ⟨RX10, "readTie", "()V"⟩
abbrev cX10_readComes : ByteArray := prog_12_method_10_code
def yX10_readComes : MethodName := ⟨RX10, "readComes", "()V"⟩
abbrev cX10_readVisit : ByteArray := prog_12_method_11_code
def yX10_readVisit : MethodName := ⟨RX10, "readVisit", "()V"⟩
abbrev cX10_readOwn : ByteArray := prog_12_method_12_code
def yX10_readOwn : MethodName := ⟨RX10, "readOwn", "()V"⟩
abbrev cX10_readMeet : ByteArray := prog_12_method_13_code
def yX10_readMeet : MethodName := ⟨RX10, "readMeet", "()V"⟩
abbrev cX10_readTurns : ByteArray := prog_12_method_14_code
def yX10_readTurns : MethodName := ⟨RX10, "readTurns", "()V"⟩
abbrev cX10_readStand : ByteArray := prog_12_method_15_code
def yX10_readStand : MethodName := ⟨RX10, "readStand", "()V"⟩
abbrev cX10_beginOneOf : ByteArray := prog_12_method_16_code
def yX10_beginOneOf : MethodName := ⟨RX10, "beginOneOf", "(II)V"⟩
abbrev cX10_takeNewName : ByteArray := prog_12_method_17_code
def yX10_takeNewName : MethodName := ⟨RX10, "takeNewName", "()I"⟩
abbrev cX10_askName : ByteArray := prog_12_method_18_code
def yX10_askName : MethodName := ⟨RX10, "askName", "(I)I"⟩
abbrev cX10_askPerson : ByteArray := prog_12_method_19_code
def yX10_askPerson : MethodName := ⟨RX10, "askPerson", "()I"⟩
abbrev cX10_takePerson : ByteArray := prog_12_method_20_code
def yX10_takePerson : MethodName := ⟨RX10, "takePerson", "()I"⟩
abbrev cX10_takeTeam : ByteArray := prog_12_method_21_code
def yX10_takeTeam : MethodName := ⟨RX10, "takeTeam", "()I"⟩
abbrev cX10_takeDay : ByteArray := prog_12_method_22_code
def yX10_takeDay : MethodName := ⟨RX10, "takeDay", "()I"⟩
abbrev cX10_takeNumber : ByteArray := prog_12_method_23_code
def yX10_takeNumber : MethodName := ⟨RX10, "takeNumber", "(I)I"⟩
def RX11 : String := "DeskDays"
def TX11 : u_T := fun k => match k with
  | 0 => ("DeskDays", "tape", "[I", true)
  | 1 => ("DeskDays", "taped", "I", false)
  | 2 => ("DeskDays", "spare", "LDeskDays$House;", false)
  | 3 => ("DeskDays", "statements", "LDeskDays$Statements;", true)
  | 4 => ("DeskDays", "plan", "LDeskDays$Plan;", true)
  | 5 => ("DeskDays", "seeker", "LDeskDays$Seeker;", true)
  | 6 => ("DeskDays", "seats", "LDeskDays$Seats;", true)
  | 7 => ("DeskDays", "chances", "LDeskDays$Chances;", true)
  | 8 => ("DeskDays", "faultKind", "I", false)
  | 9 => ("DeskDays", "faultPlace", "I", false)
  | 10 => ("DeskDays", "seedNow", "J", false)
  | 11 => ("DeskDays", "written", "[I", true)
  | 12 => ("DeskDays", "writtenSize", "I", false)
  | _ => ("DeskDays", "refusals", "[I", true)
def tyX11 : Nat → FieldType := fun k => match k with
  | 0 => .array .int
  | 1 => .int
  | 2 => .object "DeskDays$House"
  | 3 => .object "DeskDays$Statements"
  | 4 => .object "DeskDays$Plan"
  | 5 => .object "DeskDays$Seeker"
  | 6 => .object "DeskDays$Seats"
  | 7 => .object "DeskDays$Chances"
  | 8 => .int
  | 9 => .int
  | 10 => .long
  | 11 => .array .int
  | 12 => .int
  | _ => .array .int
abbrev wsX110 : List Cond := u_ws RX11 TX11 14
theorem nmX11 : ∀ a, a < 14 → ∀ b, b < 14 → a ≠ b → (TX11 a).2.1 ≠ (TX11 b).2.1 := by decide +kernel
theorem tyX11_ok : ∀ k, k < 14 → parseFieldDescriptor (TX11 k).2.2.1 = some (tyX11 k) := by decide +kernel
abbrev cX11_init : ByteArray := prog_1_method_1_code
def yX11_init : MethodName := ⟨RX11, "<init>", "()V"⟩
abbrev cX11_feed : ByteArray := prog_1_method_2_code
def yX11_feed : MethodName := ⟨RX11, "feed", "(IIIII)I"⟩
abbrev cX11_addBytes : ByteArray := prog_1_method_3_code
def yX11_addBytes : MethodName := ⟨RX11, "addBytes", "(I)V"⟩
abbrev cX11_end : ByteArray := prog_1_method_4_code
def yX11_end : MethodName := ⟨RX11, "end", "(I)Z"⟩
abbrev cX11_house : ByteArray := prog_1_method_5_code
def yX11_house : MethodName := ⟨RX11, "house", "()I"⟩
abbrev cX11_fault : ByteArray := prog_1_method_6_code
def yX11_fault : MethodName := ⟨RX11, "fault", "(I)I"⟩
abbrev cX11_has : ByteArray := prog_1_method_7_code
def yX11_has : MethodName := ⟨RX11, "has", "(I)I"⟩
abbrev cX11_letter : ByteArray := prog_1_method_8_code
def yX11_letter : MethodName := ⟨RX11, "letter", "(III)I"⟩
abbrev cX11_letterOf : ByteArray := prog_1_method_9_code
def yX11_letterOf : MethodName := ⟨RX11, "letterOf", "(II)I"⟩
abbrev cX11_person : ByteArray := prog_1_method_10_code
def yX11_person : MethodName := ⟨RX11, "person", "(II)I"⟩
abbrev cX11_floor : ByteArray := prog_1_method_11_code
def yX11_floor : MethodName := ⟨RX11, "floor", "(II)I"⟩
abbrev cX11_put : ByteArray := prog_1_method_12_code
def yX11_put : MethodName := ⟨RX11, "put", "(II)Z"⟩
abbrev cX11_row : ByteArray := prog_1_method_13_code
def yX11_row : MethodName := ⟨RX11, "row", "()Z"⟩
abbrev cX11_areSets : ByteArray := prog_1_method_14_code
def yX11_areSets : MethodName := ⟨RX11, "areSets", "(I)Z"⟩
abbrev cX11_takeSets : ByteArray := prog_1_method_15_code
def yX11_takeSets : MethodName := ⟨RX11, "takeSets", "(I)V"⟩
abbrev cX11_day : ByteArray := prog_1_method_16_code
def yX11_day : MethodName := ⟨RX11, "day", "(II)I"⟩
abbrev cX11_met : ByteArray := prog_1_method_17_code
def yX11_met : MethodName := ⟨RX11, "met", "(I)I"⟩
abbrev cX11_judge : ByteArray := prog_1_method_18_code
def yX11_judge : MethodName := ⟨RX11, "judge", "(I)I"⟩
abbrev cX11_worth : ByteArray := prog_1_method_19_code
def yX11_worth : MethodName := ⟨RX11, "worth", "()I"⟩
abbrev cX11_seek : ByteArray := prog_1_method_20_code
def yX11_seek : MethodName := ⟨RX11, "seek", "()I"⟩
abbrev cX11_spent : ByteArray := prog_1_method_21_code
def yX11_spent : MethodName := ⟨RX11, "spent", "()I"⟩
abbrev cX11_fewest : ByteArray := prog_1_method_22_code
def yX11_fewest : MethodName := ⟨RX11, "fewest", "()I"⟩
abbrev cX11_better : ByteArray := prog_1_method_23_code
def yX11_better : MethodName := ⟨RX11, "better", "(I)I"⟩
abbrev cX11_both : ByteArray := prog_1_method_24_code
def yX11_both : MethodName := ⟨RX11, "both", "(II)I"⟩
abbrev cX11_trade : ByteArray := prog_1_method_25_code
def yX11_trade : MethodName := ⟨RX11, "trade", "(II)I"⟩
abbrev cX11_should : ByteArray := prog_1_method_26_code
def yX11_should : MethodName := ⟨RX11, "should", "(I)I"⟩
abbrev cX11_bound : ByteArray := prog_1_method_27_code
def yX11_bound : MethodName := ⟨RX11, "bound", "(Z)I"⟩
abbrev cX11_likely : ByteArray := prog_1_method_28_code
def yX11_likely : MethodName := ⟨RX11, "likely", "(II)J"⟩
abbrev cX11_enough : ByteArray := prog_1_method_29_code
def yX11_enough : MethodName := ⟨RX11, "enough", "(II)I"⟩
abbrev cX11_over : ByteArray := prog_1_method_30_code
def yX11_over : MethodName := ⟨RX11, "over", "(III)I"⟩
abbrev cX11_stairs : ByteArray := prog_1_method_31_code
def yX11_stairs : MethodName := ⟨RX11, "stairs", "(I)J"⟩
abbrev cX11_draw : ByteArray := prog_1_method_32_code
def yX11_draw : MethodName := ⟨RX11, "draw", "(I)I"⟩
abbrev cX11_drawComer : ByteArray := prog_1_method_33_code
def yX11_drawComer : MethodName := ⟨RX11, "drawComer", "(I)I"⟩
abbrev cX11_seed : ByteArray := prog_1_method_34_code
def yX11_seed : MethodName := ⟨RX11, "seed", "(I)Z"⟩
abbrev cX11_alone : ByteArray := prog_1_method_35_code
def yX11_alone : MethodName := ⟨RX11, "alone", "(I)I"⟩
abbrev cX11_free : ByteArray := prog_1_method_36_code
def yX11_free : MethodName := ⟨RX11, "free", "(I)I"⟩
abbrev cX11_seat : ByteArray := prog_1_method_37_code
def yX11_seat : MethodName := ⟨RX11, "seat", "(II)I"⟩
abbrev cX11_fit : ByteArray := prog_1_method_38_code
def yX11_fit : MethodName := ⟨RX11, "fit", "(II)I"⟩
abbrev cX11_shut : ByteArray := prog_1_method_39_code
def yX11_shut : MethodName := ⟨RX11, "shut", "(I)I"⟩
abbrev cX11_never : ByteArray := prog_1_method_40_code
def yX11_never : MethodName := ⟨RX11, "never", "(I)I"⟩
abbrev cX11_weeks : ByteArray := prog_1_method_41_code
def yX11_weeks : MethodName := ⟨RX11, "weeks", "()I"⟩
abbrev cX11_grow : ByteArray := prog_1_method_42_code
def yX11_grow : MethodName := ⟨RX11, "grow", "(I)I"⟩
abbrev cX11_move : ByteArray := prog_1_method_43_code
def yX11_move : MethodName := ⟨RX11, "move", "(I)I"⟩
abbrev cX11_image : ByteArray := prog_1_method_44_code
def yX11_image : MethodName := ⟨RX11, "image", "()I"⟩
abbrev cX11_checkByte : ByteArray := prog_1_method_45_code
def yX11_checkByte : MethodName := ⟨RX11, "checkByte", "([II)I"⟩
abbrev cX11_octet : ByteArray := prog_1_method_46_code
def yX11_octet : MethodName := ⟨RX11, "octet", "(I)I"⟩
abbrev cX11_on : ByteArray := prog_1_method_47_code
def yX11_on : MethodName := ⟨RX11, "on", "()Z"⟩
abbrev cX11_isImage : ByteArray := prog_1_method_48_code
def yX11_isImage : MethodName := ⟨RX11, "isImage", "()Z"⟩
abbrev cX11_status : ByteArray := prog_1_method_49_code
def yX11_status : MethodName := ⟨RX11, "status", "(I)I"⟩
abbrev cX11_refuse : ByteArray := prog_1_method_50_code
def yX11_refuse : MethodName := ⟨RX11, "refuse", "(I)I"⟩
abbrev cX11_isBelow : ByteArray := prog_1_method_51_code
def yX11_isBelow : MethodName := ⟨RX11, "isBelow", "(II)Z"⟩
abbrev cX11_isDay : ByteArray := prog_1_method_52_code
def yX11_isDay : MethodName := ⟨RX11, "isDay", "(I)Z"⟩
abbrev cX11_isPart : ByteArray := prog_1_method_53_code
def yX11_isPart : MethodName := ⟨RX11, "isPart", "(I)Z"⟩
abbrev cX11_isPerson : ByteArray := prog_1_method_54_code
def yX11_isPerson : MethodName := ⟨RX11, "isPerson", "(I)Z"⟩
abbrev cX11_areTwo : ByteArray := prog_1_method_55_code
def yX11_areTwo : MethodName := ⟨RX11, "areTwo", "(II)Z"⟩
def RX12 : String := "DeskDaysModel"
def TX12 : u_T := fun k => match k with
  | 0 => ("DeskDaysModel", "tape", "[I", true)
  | 1 => ("DeskDaysModel", "taped", "I", false)
  | 2 => ("DeskDaysModel", "size", "I", false)
  | 3 => ("DeskDaysModel", "sign", "I", false)
  | 4 => ("DeskDaysModel", "signAt", "I", false)
  | 5 => ("DeskDaysModel", "signEnd", "I", false)
  | 6 => ("DeskDaysModel", "value", "I", false)
  | 7 => ("DeskDaysModel", "word", "J", false)
  | 8 => ("DeskDaysModel", "faultKind", "I", false)
  | 9 => ("DeskDaysModel", "faultPlace", "I", false)
  | 10 => ("DeskDaysModel", "toldKind", "I", false)
  | 11 => ("DeskDaysModel", "toldPlace", "I", false)
  | 12 => ("DeskDaysModel", "bank", "I", false)
  | 13 => ("DeskDaysModel", "floors", "[I", true)
  | 14 => ("DeskDaysModel", "floorName", "[J", true)
  | 15 => ("DeskDaysModel", "desks", "[I", true)
  | 16 => ("DeskDaysModel", "noise", "[I", true)
  | 17 => ("DeskDaysModel", "costs", "[I", true)
  | 18 => ("DeskDaysModel", "teams", "[I", true)
  | 19 => ("DeskDaysModel", "teamName", "[J", true)
  | 20 => ("DeskDaysModel", "mustMeet", "[Z", true)
  | 21 => ("DeskDaysModel", "persons", "[I", true)
  | 22 => ("DeskDaysModel", "personName", "[J", true)
  | 23 => ("DeskDaysModel", "teamOf", "[I", true)
  | 24 => ("DeskDaysModel", "daysOf", "[I", true)
  | 25 => ("DeskDaysModel", "cannot", "[I", true)
  | 26 => ("DeskDaysModel", "likes", "[I", true)
  | 27 => ("DeskDaysModel", "comes", "[I", true)
  | 28 => ("DeskDaysModel", "ownFloor", "[I", true)
  | 29 => ("DeskDaysModel", "turns", "[I", true)
  | 30 => ("DeskDaysModel", "ties", "[I", true)
  | 31 => ("DeskDaysModel", "tieOne", "[I", true)
  | 32 => ("DeskDaysModel", "tieTwo", "[I", true)
  | 33 => ("DeskDaysModel", "tieWorth", "[I", true)
  | 34 => ("DeskDaysModel", "visitors", "[I", true)
  | 35 => ("DeskDaysModel", "visitChance", "[I", true)
  | 36 => ("DeskDaysModel", "stand", "[I", true)
  | 37 => ("DeskDaysModel", "rules", "[I", true)
  | 38 => ("DeskDaysModel", "sumFrom", "[I", true)
  | 39 => ("DeskDaysModel", "testFrom", "[I", true)
  | 40 => ("DeskDaysModel", "testTo", "[I", true)
  | 41 => ("DeskDaysModel", "codeSort", "[I", true)
  | 42 => ("DeskDaysModel", "codeValue", "[I", true)
  | 43 => ("DeskDaysModel", "codes", "I", false)
  | 44 => ("DeskDaysModel", "in", "I", false)
  | 45 => ("DeskDaysModel", "frame", "[I", true)
  | 46 => ("DeskDaysModel", "phase", "[I", true)
  | 47 => ("DeskDaysModel", "begins", "[Z", true)
  | 48 => ("DeskDaysModel", "pair", "[I", true)
  | 49 => ("DeskDaysModel", "base", "[I", true)
  | 50 => ("DeskDaysModel", "deep", "I", false)
  | 51 => ("DeskDaysModel", "open", "I", false)
  | 52 => ("DeskDaysModel", "ops", "[I", true)
  | 53 => ("DeskDaysModel", "opMany", "I", false)
  | 54 => ("DeskDaysModel", "operand", "Z", false)
  | 55 => ("DeskDaysModel", "refused", "[I", true)
  | 56 => ("DeskDaysModel", "heap", "[J", true)
  | 57 => ("DeskDaysModel", "moment", "[I", true)
  | 58 => ("DeskDaysModel", "plan", "[I", true)
  | 59 => ("DeskDaysModel", "wrongKind", "I", false)
  | 60 => ("DeskDaysModel", "wrongOne", "I", false)
  | 61 => ("DeskDaysModel", "wrongDay", "I", false)
  | 62 => ("DeskDaysModel", "looked", "I", false)
  | 63 => ("DeskDaysModel", "tried", "[I", true)
  | 64 => ("DeskDaysModel", "leftTries", "I", false)
  | 65 => ("DeskDaysModel", "many12", "[J", true)
  | 66 => ("DeskDaysModel", "seed", "J", false)
  | 67 => ("DeskDaysModel", "seat", "[I", true)
  | 68 => ("DeskDaysModel", "out", "[I", true)
  | _ => ("DeskDaysModel", "outs", "I", false)
def tyX12 : Nat → FieldType := fun k => match k with
  | 0 => .array .int
  | 1 => .int
  | 2 => .int
  | 3 => .int
  | 4 => .int
  | 5 => .int
  | 6 => .int
  | 7 => .long
  | 8 => .int
  | 9 => .int
  | 10 => .int
  | 11 => .int
  | 12 => .int
  | 13 => .array .int
  | 14 => .array .long
  | 15 => .array .int
  | 16 => .array .int
  | 17 => .array .int
  | 18 => .array .int
  | 19 => .array .long
  | 20 => .array .boolean
  | 21 => .array .int
  | 22 => .array .long
  | 23 => .array .int
  | 24 => .array .int
  | 25 => .array .int
  | 26 => .array .int
  | 27 => .array .int
  | 28 => .array .int
  | 29 => .array .int
  | 30 => .array .int
  | 31 => .array .int
  | 32 => .array .int
  | 33 => .array .int
  | 34 => .array .int
  | 35 => .array .int
  | 36 => .array .int
  | 37 => .array .int
  | 38 => .array .int
  | 39 => .array .int
  | 40 => .array .int
  | 41 => .array .int
  | 42 => .array .int
  | 43 => .int
  | 44 => .int
  | 45 => .array .int
  | 46 => .array .int
  | 47 => .array .boolean
  | 48 => .array .int
  | 49 => .array .int
  | 50 => .int
  | 51 => .int
  | 52 => .array .int
  | 53 => .int
  | 54 => .boolean
  | 55 => .array .int
  | 56 => .array .long
  | 57 => .array .int
  | 58 => .array .int
  | 59 => .int
  | 60 => .int
  | 61 => .int
  | 62 => .int
  | 63 => .array .int
  | 64 => .int
  | 65 => .array .long
  | 66 => .long
  | 67 => .array .int
  | 68 => .array .int
  | _ => .int
abbrev wsX120 : List Cond := u_ws RX12 TX12 70
theorem nmX12 : ∀ a, a < 70 → ∀ b, b < 70 → a ≠ b → (TX12 a).2.1 ≠ (TX12 b).2.1 := by decide +kernel
theorem tyX12_ok : ∀ k, k < 70 → parseFieldDescriptor (TX12 k).2.2.1 = some (tyX12 k) := by decide +kernel
abbrev cX12_init : ByteArray := prog_14_method_1_code
def yX12_init : MethodName := ⟨RX12, "<init>", "()V"⟩
abbrev cX12_is : ByteArray := prog_14_method_2_code
def yX12_is : MethodName := ⟨RX12, "is", "(III)Z"⟩
abbrev cX12_put : ByteArray := prog_14_method_3_code
def yX12_put : MethodName := ⟨RX12, "put", "(I)V"⟩
abbrev cX12_feed : ByteArray := prog_14_method_4_code
def yX12_feed : MethodName := ⟨RX12, "feed", "(IIIII)I"⟩
abbrev cX12_end : ByteArray := prog_14_method_5_code
def yX12_end : MethodName := ⟨RX12, "end", "(I)Z"⟩
abbrev cX12_blame : ByteArray := prog_14_method_6_code
def yX12_blame : MethodName := ⟨RX12, "blame", "(II)V"⟩
abbrev cX12_isLetter : ByteArray := prog_14_method_7_code
def yX12_isLetter : MethodName := ⟨RX12, "isLetter", "(I)Z"⟩
abbrev cX12_isDigit : ByteArray := prog_14_method_8_code
def yX12_isDigit : MethodName := ⟨RX12, "isDigit", "(I)Z"⟩
abbrev cX12_ahead : ByteArray := prog_14_method_9_code
def yX12_ahead : MethodName := ⟨RX12, "ahead", "()V"⟩
abbrev cX12_isSign : ByteArray := prog_14_method_10_code
def yX12_isSign : MethodName := ⟨RX12, "isSign", "(I)Z"⟩
abbrev cX12_isWord : ByteArray := prog_14_method_11_code
def yX12_isWord : MethodName := ⟨RX12, "isWord", "(J)Z"⟩
abbrev cX12_must : ByteArray := prog_14_method_12_code
def yX12_must : MethodName := ⟨RX12, "must", "(I)V"⟩
abbrev cX12_isOwn : ByteArray := prog_14_method_13_code
def yX12_isOwn : MethodName := ⟨RX12, "isOwn", "(J)Z"⟩
abbrev cX12_named : ByteArray := prog_14_method_14_code
def yX12_named : MethodName := ⟨RX12, "named", "(IJ)I"⟩
abbrev cX12_number : ByteArray := prog_14_method_15_code
def yX12_number : MethodName := ⟨RX12, "number", "(II)I"⟩
abbrev cX12_add : ByteArray := prog_14_method_16_code
def yX12_add : MethodName := ⟨RX12, "add", "(II)V"⟩
abbrev cX12_rank : ByteArray := prog_14_method_17_code
def yX12_rank : MethodName := ⟨RX12, "rank", "(I)I"⟩
abbrev cX12_joins : ByteArray := prog_14_method_18_code
def yX12_joins : MethodName := ⟨RX12, "joins", "(I)V"⟩
abbrev cX12_holdsBack : ByteArray := prog_14_method_19_code
def yX12_holdsBack : MethodName := ⟨RX12, "holdsBack", "(I)V"⟩
abbrev cX12_pushes : ByteArray := prog_14_method_20_code
def yX12_pushes : MethodName := ⟨RX12, "pushes", "(I)V"⟩
abbrev cX12_opens : ByteArray := prog_14_method_21_code
def yX12_opens : MethodName := ⟨RX12, "opens", "(I)V"⟩
abbrev cX12_isTest : ByteArray := prog_14_method_22_code
def yX12_isTest : MethodName := ⟨RX12, "isTest", "(I)Z"⟩
abbrev cX12_operand : ByteArray := prog_14_method_23_code
def yX12_operand : MethodName := ⟨RX12, "operand", "()Z"⟩
abbrev cX12_goesOn : ByteArray := prog_14_method_24_code
def yX12_goesOn : MethodName := ⟨RX12, "goesOn", "()Z"⟩
abbrev cX12_reads : ByteArray := prog_14_method_25_code
def yX12_reads : MethodName := ⟨RX12, "reads", "(Z)V"⟩
abbrev cX12_counts : ByteArray := prog_14_method_26_code
def yX12_counts : MethodName := ⟨RX12, "counts", "(Z)Z"⟩
abbrev cX12_must_ : ByteArray := prog_14_method_27_code
def yX12_must_ : MethodName := ⟨RX12, "must", "(J)V"⟩
abbrev cX12_fresh : ByteArray := prog_14_method_28_code
def yX12_fresh : MethodName := ⟨RX12, "fresh", "()J"⟩
abbrev cX12_asked : ByteArray := prog_14_method_29_code
def yX12_asked : MethodName := ⟨RX12, "asked", "(I)I"⟩
abbrev cX12_floor : ByteArray := prog_14_method_30_code
def yX12_floor : MethodName := ⟨RX12, "floor", "()V"⟩
abbrev cX12_team : ByteArray := prog_14_method_31_code
def yX12_team : MethodName := ⟨RX12, "team", "()V"⟩
abbrev cX12_person : ByteArray := prog_14_method_32_code
def yX12_person : MethodName := ⟨RX12, "person", "()V"⟩
abbrev cX12_dayHere : ByteArray := prog_14_method_33_code
def yX12_dayHere : MethodName := ⟨RX12, "dayHere", "()I"⟩
abbrev cX12_cannots : ByteArray := prog_14_method_34_code
def yX12_cannots : MethodName := ⟨RX12, "cannots", "()V"⟩
abbrev cX12_liking : ByteArray := prog_14_method_35_code
def yX12_liking : MethodName := ⟨RX12, "liking", "()V"⟩
abbrev cX12_tie : ByteArray := prog_14_method_36_code
def yX12_tie : MethodName := ⟨RX12, "tie", "()V"⟩
abbrev cX12_coming : ByteArray := prog_14_method_37_code
def yX12_coming : MethodName := ⟨RX12, "coming", "()V"⟩
abbrev cX12_visit : ByteArray := prog_14_method_38_code
def yX12_visit : MethodName := ⟨RX12, "visit", "()V"⟩
abbrev cX12_ownedOn : ByteArray := prog_14_method_39_code
def yX12_ownedOn : MethodName := ⟨RX12, "ownedOn", "(II)I"⟩
abbrev cX12_owns : ByteArray := prog_14_method_40_code
def yX12_owns : MethodName := ⟨RX12, "owns", "()V"⟩
abbrev cX12_meeting : ByteArray := prog_14_method_41_code
def yX12_meeting : MethodName := ⟨RX12, "meeting", "()V"⟩
abbrev cX12_turning : ByteArray := prog_14_method_42_code
def yX12_turning : MethodName := ⟨RX12, "turning", "()V"⟩
abbrev cX12_standing : ByteArray := prog_14_method_43_code
def yX12_standing : MethodName := ⟨RX12, "standing", "()V"⟩
abbrev cX12_rule : ByteArray := prog_14_method_44_code
def yX12_rule : MethodName := ⟨RX12, "rule", "()V"⟩
abbrev cX12_statement : ByteArray := prog_14_method_45_code
def yX12_statement : MethodName := ⟨RX12, "statement", "()V"⟩
abbrev cX12_others : ByteArray := prog_14_method_46_code
def yX12_others : MethodName := ⟨RX12, "others", "()V"⟩
abbrev cX12_house : ByteArray := prog_14_method_47_code
def yX12_house : MethodName := ⟨RX12, "house", "()I"⟩
abbrev cX12_fault : ByteArray := prog_14_method_48_code
def yX12_fault : MethodName := ⟨RX12, "fault", "(I)I"⟩
abbrev cX12_refuses : ByteArray := prog_14_method_49_code
def yX12_refuses : MethodName := ⟨RX12, "refuses", "(I)I"⟩
abbrev cX12_status : ByteArray := prog_14_method_50_code
def yX12_status : MethodName := ⟨RX12, "status", "(I)I"⟩
abbrev cX12_bounded : ByteArray := prog_14_method_51_code
def yX12_bounded : MethodName := ⟨RX12, "bounded", "(J)J"⟩
abbrev cX12_over : ByteArray := prog_14_method_52_code
def yX12_over : MethodName := ⟨RX12, "over", "(JJ)J"⟩
abbrev cX12_made : ByteArray := prog_14_method_53_code
def yX12_made : MethodName := ⟨RX12, "made", "(IJJ)J"⟩
abbrev cX12_works : ByteArray := prog_14_method_54_code
def yX12_works : MethodName := ⟨RX12, "works", "(II)J"⟩
abbrev cX12_isPerson : ByteArray := prog_14_method_55_code
def yX12_isPerson : MethodName := ⟨RX12, "isPerson", "(I)Z"⟩
abbrev cX12_isDay : ByteArray := prog_14_method_56_code
def yX12_isDay : MethodName := ⟨RX12, "isDay", "(I)Z"⟩
abbrev cX12_desksAll : ByteArray := prog_14_method_57_code
def yX12_desksAll : MethodName := ⟨RX12, "desksAll", "()I"⟩
abbrev cX12_floorOf : ByteArray := prog_14_method_58_code
def yX12_floorOf : MethodName := ⟨RX12, "floorOf", "(I)I"⟩
abbrev cX12_ownedAll : ByteArray := prog_14_method_59_code
def yX12_ownedAll : MethodName := ⟨RX12, "ownedAll", "()I"⟩
abbrev cX12_spare : ByteArray := prog_14_method_60_code
def yX12_spare : MethodName := ⟨RX12, "spare", "()I"⟩
abbrev cX12_has : ByteArray := prog_14_method_61_code
def yX12_has : MethodName := ⟨RX12, "has", "(I)I"⟩
abbrev cX12_letterOf : ByteArray := prog_14_method_62_code
def yX12_letterOf : MethodName := ⟨RX12, "letterOf", "(JI)I"⟩
abbrev cX12_letter : ByteArray := prog_14_method_63_code
def yX12_letter : MethodName := ⟨RX12, "letter", "(III)I"⟩
abbrev cX12_bitsOf : ByteArray := prog_14_method_64_code
def yX12_bitsOf : MethodName := ⟨RX12, "bitsOf", "(I)I"⟩
abbrev cX12_suits : ByteArray := prog_14_method_65_code
def yX12_suits : MethodName := ⟨RX12, "suits", "(II)Z"⟩
abbrev cX12_suiting : ByteArray := prog_14_method_66_code
def yX12_suiting : MethodName := ⟨RX12, "suiting", "(I)I"⟩
abbrev cX12_isIn : ByteArray := prog_14_method_67_code
def yX12_isIn : MethodName := ⟨RX12, "isIn", "(II)Z"⟩
abbrev cX12_person_ : ByteArray := prog_14_method_68_code
def yX12_person_ : MethodName := ⟨RX12, "person", "(II)I"⟩
abbrev cX12_floor_ : ByteArray := prog_14_method_69_code
def yX12_floor_ : MethodName := ⟨RX12, "floor", "(II)I"⟩
abbrev cX12_put_ : ByteArray := prog_14_method_70_code
def yX12_put_ : MethodName := ⟨RX12, "put", "(II)Z"⟩
abbrev cX12_row : ByteArray := prog_14_method_71_code
def yX12_row : MethodName := ⟨RX12, "row", "()Z"⟩
abbrev cX12_inOn : ByteArray := prog_14_method_72_code
def yX12_inOn : MethodName := ⟨RX12, "inOn", "(I)I"⟩
abbrev cX12_othersOn : ByteArray := prog_14_method_73_code
def yX12_othersOn : MethodName := ⟨RX12, "othersOn", "(I)I"⟩
abbrev cX12_standOn : ByteArray := prog_14_method_74_code
def yX12_standOn : MethodName := ⟨RX12, "standOn", "(I)I"⟩
abbrev cX12_day : ByteArray := prog_14_method_75_code
def yX12_day : MethodName := ⟨RX12, "day", "(II)I"⟩
abbrev cX12_metOn : ByteArray := prog_14_method_76_code
def yX12_metOn : MethodName := ⟨RX12, "metOn", "(I)I"⟩
abbrev cX12_met : ByteArray := prog_14_method_77_code
def yX12_met : MethodName := ⟨RX12, "met", "(I)I"⟩
abbrev cX12_wrong : ByteArray := prog_14_method_78_code
def yX12_wrong : MethodName := ⟨RX12, "wrong", "(III)V"⟩
abbrev cX12_together : ByteArray := prog_14_method_79_code
def yX12_together : MethodName := ⟨RX12, "together", "(I)I"⟩
abbrev cX12_holds : ByteArray := prog_14_method_80_code
def yX12_holds : MethodName := ⟨RX12, "holds", "()Z"⟩
abbrev cX12_judge : ByteArray := prog_14_method_81_code
def yX12_judge : MethodName := ⟨RX12, "judge", "(I)I"⟩
abbrev cX12_ruled : ByteArray := prog_14_method_82_code
def yX12_ruled : MethodName := ⟨RX12, "ruled", "(II)I"⟩
abbrev cX12_tied : ByteArray := prog_14_method_83_code
def yX12_tied : MethodName := ⟨RX12, "tied", "()I"⟩
abbrev cX12_worth : ByteArray := prog_14_method_84_code
def yX12_worth : MethodName := ⟨RX12, "worth", "()I"⟩
abbrev cX12_isLastOf : ByteArray := prog_14_method_85_code
def yX12_isLastOf : MethodName := ⟨RX12, "isLastOf", "(I)Z"⟩
abbrev cX12_triedOn : ByteArray := prog_14_method_86_code
def yX12_triedOn : MethodName := ⟨RX12, "triedOn", "(II)I"⟩
abbrev cX12_may : ByteArray := prog_14_method_87_code
def yX12_may : MethodName := ⟨RX12, "may", "(II)Z"⟩
abbrev cX12_sought : ByteArray := prog_14_method_88_code
def yX12_sought : MethodName := ⟨RX12, "sought", "(I)I"⟩
abbrev cX12_seek : ByteArray := prog_14_method_89_code
def yX12_seek : MethodName := ⟨RX12, "seek", "()I"⟩
abbrev cX12_spent : ByteArray := prog_14_method_90_code
def yX12_spent : MethodName := ⟨RX12, "spent", "()I"⟩
abbrev cX12_fewest : ByteArray := prog_14_method_91_code
def yX12_fewest : MethodName := ⟨RX12, "fewest", "()I"⟩
abbrev cX12_betters : ByteArray := prog_14_method_92_code
def yX12_betters : MethodName := ⟨RX12, "betters", "(I)Z"⟩
abbrev cX12_better : ByteArray := prog_14_method_93_code
def yX12_better : MethodName := ⟨RX12, "better", "(I)I"⟩
abbrev cX12_both : ByteArray := prog_14_method_94_code
def yX12_both : MethodName := ⟨RX12, "both", "(II)I"⟩
abbrev cX12_trade : ByteArray := prog_14_method_95_code
def yX12_trade : MethodName := ⟨RX12, "trade", "(II)I"⟩
abbrev cX12_isLonely : ByteArray := prog_14_method_96_code
def yX12_isLonely : MethodName := ⟨RX12, "isLonely", "(I)Z"⟩
abbrev cX12_should : ByteArray := prog_14_method_97_code
def yX12_should : MethodName := ⟨RX12, "should", "(I)I"⟩
abbrev cX12_least : ByteArray := prog_14_method_98_code
def yX12_least : MethodName := ⟨RX12, "least", "(II)I"⟩
abbrev cX12_bound : ByteArray := prog_14_method_99_code
def yX12_bound : MethodName := ⟨RX12, "bound", "(Z)I"⟩
abbrev cX12_nobody : ByteArray := prog_14_method_100_code
def yX12_nobody : MethodName := ⟨RX12, "nobody", "()V"⟩
abbrev cX12_oneMore : ByteArray := prog_14_method_101_code
def yX12_oneMore : MethodName := ⟨RX12, "oneMore", "(I)V"⟩
abbrev cX12_above : ByteArray := prog_14_method_102_code
def yX12_above : MethodName := ⟨RX12, "above", "(I)J"⟩
abbrev cX12_comers : ByteArray := prog_14_method_103_code
def yX12_comers : MethodName := ⟨RX12, "comers", "(I)V"⟩
abbrev cX12_likely : ByteArray := prog_14_method_104_code
def yX12_likely : MethodName := ⟨RX12, "likely", "(II)J"⟩
abbrev cX12_stairs : ByteArray := prog_14_method_105_code
def yX12_stairs : MethodName := ⟨RX12, "stairs", "(I)J"⟩
abbrev cX12_enough : ByteArray := prog_14_method_106_code
def yX12_enough : MethodName := ⟨RX12, "enough", "(II)I"⟩
abbrev cX12_over_ : ByteArray := prog_14_method_107_code
def yX12_over_ : MethodName := ⟨RX12, "over", "(III)I"⟩
abbrev cX12_drawn : ByteArray := prog_14_method_108_code
def yX12_drawn : MethodName := ⟨RX12, "drawn", "(I)I"⟩
abbrev cX12_draw : ByteArray := prog_14_method_109_code
def yX12_draw : MethodName := ⟨RX12, "draw", "(I)I"⟩
abbrev cX12_seed : ByteArray := prog_14_method_110_code
def yX12_seed : MethodName := ⟨RX12, "seed", "(I)Z"⟩
abbrev cX12_aloneOf : ByteArray := prog_14_method_111_code
def yX12_aloneOf : MethodName := ⟨RX12, "aloneOf", "(II)I"⟩
abbrev cX12_alone : ByteArray := prog_14_method_112_code
def yX12_alone : MethodName := ⟨RX12, "alone", "(I)I"⟩
abbrev cX12_round : ByteArray := prog_14_method_113_code
def yX12_round : MethodName := ⟨RX12, "round", "()Z"⟩
abbrev cX12_free : ByteArray := prog_14_method_114_code
def yX12_free : MethodName := ⟨RX12, "free", "(I)I"⟩
abbrev cX12_sitting : ByteArray := prog_14_method_115_code
def yX12_sitting : MethodName := ⟨RX12, "sitting", "(IZ)I"⟩
abbrev cX12_tiesWith : ByteArray := prog_14_method_116_code
def yX12_tiesWith : MethodName := ⟨RX12, "tiesWith", "(II)I"⟩
abbrev cX12_seats : ByteArray := prog_14_method_117_code
def yX12_seats : MethodName := ⟨RX12, "seats", "(I)V"⟩
abbrev cX12_fitOf : ByteArray := prog_14_method_118_code
def yX12_fitOf : MethodName := ⟨RX12, "fitOf", "()I"⟩
abbrev cX12_isMovable : ByteArray := prog_14_method_119_code
def yX12_isMovable : MethodName := ⟨RX12, "isMovable", "(I)Z"⟩
abbrev cX12_change : ByteArray := prog_14_method_120_code
def yX12_change : MethodName := ⟨RX12, "change", "(II)V"⟩
abbrev cX12_exchanges : ByteArray := prog_14_method_121_code
def yX12_exchanges : MethodName := ⟨RX12, "exchanges", "()Z"⟩
abbrev cX12_exchanged : ByteArray := prog_14_method_122_code
def yX12_exchanged : MethodName := ⟨RX12, "exchanged", "()I"⟩
abbrev cX12_seat : ByteArray := prog_14_method_123_code
def yX12_seat : MethodName := ⟨RX12, "seat", "(II)I"⟩
abbrev cX12_fit : ByteArray := prog_14_method_124_code
def yX12_fit : MethodName := ⟨RX12, "fit", "(II)I"⟩
abbrev cX12_ownerIn : ByteArray := prog_14_method_125_code
def yX12_ownerIn : MethodName := ⟨RX12, "ownerIn", "(II)Z"⟩
abbrev cX12_shut : ByteArray := prog_14_method_126_code
def yX12_shut : MethodName := ⟨RX12, "shut", "(I)I"⟩
abbrev cX12_turned : ByteArray := prog_14_method_127_code
def yX12_turned : MethodName := ⟨RX12, "turned", "(II)I"⟩
abbrev cX12_neverIn : ByteArray := prog_14_method_128_code
def yX12_neverIn : MethodName := ⟨RX12, "neverIn", "(I)I"⟩
abbrev cX12_never : ByteArray := prog_14_method_129_code
def yX12_never : MethodName := ⟨RX12, "never", "(I)I"⟩
abbrev cX12_weeks : ByteArray := prog_14_method_130_code
def yX12_weeks : MethodName := ⟨RX12, "weeks", "()I"⟩
abbrev cX12_grow : ByteArray := prog_14_method_131_code
def yX12_grow : MethodName := ⟨RX12, "grow", "(I)I"⟩
abbrev cX12_move : ByteArray := prog_14_method_132_code
def yX12_move : MethodName := ⟨RX12, "move", "(I)I"⟩
abbrev cX12_writes : ByteArray := prog_14_method_133_code
def yX12_writes : MethodName := ⟨RX12, "writes", "(I)V"⟩
abbrev cX12_image : ByteArray := prog_14_method_134_code
def yX12_image : MethodName := ⟨RX12, "image", "()I"⟩
abbrev cX12_octet : ByteArray := prog_14_method_135_code
def yX12_octet : MethodName := ⟨RX12, "octet", "(I)I"⟩
abbrev cX12_on : ByteArray := prog_14_method_136_code
def yX12_on : MethodName := ⟨RX12, "on", "()Z"⟩
def RJx145de : String := "java/io/Serializable"
def TJx145de : u_T := fun k => match k with
  | _ => ("", "", "", false)
def tyJx145de : Nat → FieldType := fun k => match k with
  | _ => .int
abbrev wsJx145de0 : List Cond := u_ws RJx145de TJx145de 0
theorem nmJx145de : ∀ a, a < 0 → ∀ b, b < 0 → a ≠ b → (TJx145de a).2.1 ≠ (TJx145de b).2.1 := by decide +kernel
theorem tyJx145de_ok : ∀ k, k < 0 → parseFieldDescriptor (TJx145de k).2.2.1 = some (tyJx145de k) := by decide +kernel
def RJx9f9b0 : String := "java/lang/CharSequence"
def TJx9f9b0 : u_T := fun k => match k with
  | _ => ("", "", "", false)
def tyJx9f9b0 : Nat → FieldType := fun k => match k with
  | _ => .int
abbrev wsJx9f9b00 : List Cond := u_ws RJx9f9b0 TJx9f9b0 0
theorem nmJx9f9b0 : ∀ a, a < 0 → ∀ b, b < 0 → a ≠ b → (TJx9f9b0 a).2.1 ≠ (TJx9f9b0 b).2.1 := by decide +kernel
theorem tyJx9f9b0_ok : ∀ k, k < 0 → parseFieldDescriptor (TJx9f9b0 k).2.2.1 = some (tyJx9f9b0 k) := by decide +kernel
def RJxb160c : String := "java/lang/Comparable"
def TJxb160c : u_T := fun k => match k with
  | _ => ("", "", "", false)
def tyJxb160c : Nat → FieldType := fun k => match k with
  | _ => .int
abbrev wsJxb160c0 : List Cond := u_ws RJxb160c TJxb160c 0
theorem nmJxb160c : ∀ a, a < 0 → ∀ b, b < 0 → a ≠ b → (TJxb160c a).2.1 ≠ (TJxb160c b).2.1 := by decide +kernel
theorem tyJxb160c_ok : ∀ k, k < 0 → parseFieldDescriptor (TJxb160c k).2.2.1 = some (tyJxb160c k) := by decide +kernel
def RJ6 : String := "java/lang/Integer"
def TJ6 : u_T := fun k => match k with
  | _ => ("", "", "", false)
def tyJ6 : Nat → FieldType := fun k => match k with
  | _ => .int
abbrev wsJ60 : List Cond := u_ws RJ6 TJ6 0
theorem nmJ6 : ∀ a, a < 0 → ∀ b, b < 0 → a ≠ b → (TJ6 a).2.1 ≠ (TJ6 b).2.1 := by decide +kernel
theorem tyJ6_ok : ∀ k, k < 0 → parseFieldDescriptor (TJ6 k).2.2.1 = some (tyJ6 k) := by decide +kernel
abbrev cJ6_bitCount_0f7a4 : ByteArray := prog_15_method_49_code
def yJ6_bitCount_0f7a4 : MethodName := ⟨RJ6, "bitCount", "(I)I"⟩
def RJ9 : String := "java/lang/Math"
def TJ9 : u_T := fun k => match k with
  | _ => ("", "", "", false)
def tyJ9 : Nat → FieldType := fun k => match k with
  | _ => .int
abbrev wsJ90 : List Cond := u_ws RJ9 TJ9 0
theorem nmJ9 : ∀ a, a < 0 → ∀ b, b < 0 → a ≠ b → (TJ9 a).2.1 ≠ (TJ9 b).2.1 := by decide +kernel
theorem tyJ9_ok : ∀ k, k < 0 → parseFieldDescriptor (TJ9 k).2.2.1 = some (tyJ9 k) := by decide +kernel
abbrev cJ9_floorDiv_7cf53 : ByteArray := prog_16_method_47_code
def yJ9_floorDiv_7cf53 : MethodName := ⟨RJ9, "floorDiv", "(II)I"⟩
abbrev cJ9_floorMod_7cf53 : ByteArray := prog_16_method_50_code
def yJ9_floorMod_7cf53 : MethodName := ⟨RJ9, "floorMod", "(II)I"⟩
abbrev cJ9_max_7cf53 : ByteArray := prog_16_method_65_code
def yJ9_max_7cf53 : MethodName := ⟨RJ9, "max", "(II)I"⟩
abbrev cJ9_min_7cf53 : ByteArray := prog_16_method_69_code
def yJ9_min_7cf53 : MethodName := ⟨RJ9, "min", "(II)I"⟩
def RJ0 : String := "java/lang/String"
def TJ0 : u_T := fun k => match k with
  | _ => ("", "", "", false)
def tyJ0 : Nat → FieldType := fun k => match k with
  | _ => .int
abbrev wsJ00 : List Cond := u_ws RJ0 TJ0 0
theorem nmJ0 : ∀ a, a < 0 → ∀ b, b < 0 → a ≠ b → (TJ0 a).2.1 ≠ (TJ0 b).2.1 := by decide +kernel
theorem tyJ0_ok : ∀ k, k < 0 → parseFieldDescriptor (TJ0 k).2.2.1 = some (tyJ0 k) := by decide +kernel
abbrev cJ0_length_8abf5 : ByteArray := prog_17_method_54_code
def yJ0_length_8abf5 : MethodName := ⟨RJ0, "length", "()I"⟩
abbrev cJ0_charAt_5068e : ByteArray := prog_17_method_56_code
def yJ0_charAt_5068e : MethodName := ⟨RJ0, "charAt", "(I)C"⟩
abbrev cJ0_coder_7d493 : ByteArray := prog_17_method_152_code
def yJ0_coder_7d493 : MethodName := ⟨RJ0, "coder", "()B"⟩
abbrev cJ0_isLatin1_aae02 : ByteArray := prog_17_method_154_code
def yJ0_isLatin1_aae02 : MethodName := ⟨RJ0, "isLatin1", "()Z"⟩
abbrev cJ0_checkIndex_df160 : ByteArray := prog_17_method_155_code
def yJ0_checkIndex_df160 : MethodName := ⟨RJ0, "checkIndex", "(II)V"⟩
def RJ1 : String := "java/lang/StringLatin1"
def TJ1 : u_T := fun k => match k with
  | _ => ("", "", "", false)
def tyJ1 : Nat → FieldType := fun k => match k with
  | _ => .int
abbrev wsJ10 : List Cond := u_ws RJ1 TJ1 0
theorem nmJ1 : ∀ a, a < 0 → ∀ b, b < 0 → a ≠ b → (TJ1 a).2.1 ≠ (TJ1 b).2.1 := by decide +kernel
theorem tyJ1_ok : ∀ k, k < 0 → parseFieldDescriptor (TJ1 k).2.2.1 = some (tyJ1 k) := by decide +kernel
abbrev cJ1_charAt_3b067 : ByteArray := prog_18_method_2_code
def yJ1_charAt_3b067 : MethodName := ⟨RJ1, "charAt", "([BI)C"⟩
def RJ2 : String := "java/lang/StringUTF16"
def TJ2 : u_T := fun k => match k with
  | _ => ("", "", "", false)
def tyJ2 : Nat → FieldType := fun k => match k with
  | _ => .int
abbrev wsJ20 : List Cond := u_ws RJ2 TJ2 0
theorem nmJ2 : ∀ a, a < 0 → ∀ b, b < 0 → a ≠ b → (TJ2 a).2.1 ≠ (TJ2 b).2.1 := by decide +kernel
theorem tyJ2_ok : ∀ k, k < 0 → parseFieldDescriptor (TJ2 k).2.2.1 = some (tyJ2 k) := by decide +kernel
abbrev cJ2_getChar_3b067 : ByteArray := prog_19_method_5_code
def yJ2_getChar_3b067 : MethodName := ⟨RJ2, "getChar", "([BI)C"⟩
abbrev cJ2_length_9d52b : ByteArray := prog_19_method_6_code
def yJ2_length_9d52b : MethodName := ⟨RJ2, "length", "([B)I"⟩
abbrev cJ2_charAt_3b067 : ByteArray := prog_19_method_83_code
def yJ2_charAt_3b067 : MethodName := ⟨RJ2, "charAt", "([BI)C"⟩
abbrev cJ2_checkIndex_2214a : ByteArray := prog_19_method_91_code
def yJ2_checkIndex_2214a : MethodName := ⟨RJ2, "checkIndex", "(I[B)V"⟩
def RJ10 : String := "java/lang/System"
def TJ10 : u_T := fun k => match k with
  | _ => ("", "", "", false)
def tyJ10 : Nat → FieldType := fun k => match k with
  | _ => .int
abbrev wsJ100 : List Cond := u_ws RJ10 TJ10 0
theorem nmJ10 : ∀ a, a < 0 → ∀ b, b < 0 → a ≠ b → (TJ10 a).2.1 ≠ (TJ10 b).2.1 := by decide +kernel
theorem tyJ10_ok : ∀ k, k < 0 → parseFieldDescriptor (TJ10 k).2.2.1 = some (tyJ10 k) := by decide +kernel
def RJxfd54e : String := "java/lang/constant/Constable"
def TJxfd54e : u_T := fun k => match k with
  | _ => ("", "", "", false)
def tyJxfd54e : Nat → FieldType := fun k => match k with
  | _ => .int
abbrev wsJxfd54e0 : List Cond := u_ws RJxfd54e TJxfd54e 0
theorem nmJxfd54e : ∀ a, a < 0 → ∀ b, b < 0 → a ≠ b → (TJxfd54e a).2.1 ≠ (TJxfd54e b).2.1 := by decide +kernel
theorem tyJxfd54e_ok : ∀ k, k < 0 → parseFieldDescriptor (TJxfd54e k).2.2.1 = some (tyJxfd54e k) := by decide +kernel
def RJx3cf43 : String := "java/lang/constant/ConstantDesc"
def TJx3cf43 : u_T := fun k => match k with
  | _ => ("", "", "", false)
def tyJx3cf43 : Nat → FieldType := fun k => match k with
  | _ => .int
abbrev wsJx3cf430 : List Cond := u_ws RJx3cf43 TJx3cf43 0
theorem nmJx3cf43 : ∀ a, a < 0 → ∀ b, b < 0 → a ≠ b → (TJx3cf43 a).2.1 ≠ (TJx3cf43 b).2.1 := by decide +kernel
theorem tyJx3cf43_ok : ∀ k, k < 0 → parseFieldDescriptor (TJx3cf43 k).2.2.1 = some (tyJx3cf43 k) := by decide +kernel
def RJ7 : String := "java/util/Arrays"
def TJ7 : u_T := fun k => match k with
  | _ => ("", "", "", false)
def tyJ7 : Nat → FieldType := fun k => match k with
  | _ => .int
abbrev wsJ70 : List Cond := u_ws RJ7 TJ7 0
theorem nmJ7 : ∀ a, a < 0 → ∀ b, b < 0 → a ≠ b → (TJ7 a).2.1 ≠ (TJ7 b).2.1 := by decide +kernel
theorem tyJ7_ok : ∀ k, k < 0 → parseFieldDescriptor (TJ7 k).2.2.1 = some (tyJ7 k) := by decide +kernel
abbrev cJ7_fill_d0a16 : ByteArray := prog_21_method_101_code
def yJ7_fill_d0a16 : MethodName := ⟨RJ7, "fill", "([JJ)V"⟩
abbrev cJ7_fill_53178 : ByteArray := prog_21_method_103_code
def yJ7_fill_53178 : MethodName := ⟨RJ7, "fill", "([II)V"⟩
def RJ3 : String := "jdk/internal/util/Preconditions"
def TJ3 : u_T := fun k => match k with
  | _ => ("", "", "", false)
def tyJ3 : Nat → FieldType := fun k => match k with
  | _ => .int
abbrev wsJ30 : List Cond := u_ws RJ3 TJ3 0
theorem nmJ3 : ∀ a, a < 0 → ∀ b, b < 0 → a ≠ b → (TJ3 a).2.1 ≠ (TJ3 b).2.1 := by decide +kernel
theorem tyJ3_ok : ∀ k, k < 0 → parseFieldDescriptor (TJ3 k).2.2.1 = some (tyJ3 k) := by decide +kernel
abbrev cJ3_checkIndex_8e157 : ByteArray := prog_22_method_11_code
def yJ3_checkIndex_8e157 : MethodName := ⟨RJ3, "checkIndex", "(IILjava/util/function/BiFunction;)I"⟩
def RL : String := "DeskDaysLaw"
abbrev cL_law : ByteArray := code
def yL_law : MethodName := ⟨RL, "law", "([I)Z"⟩
abbrev vwCl : List vw_C := [(RX0, TX0, 2), (RX1, TX1, 8), (RX2, TX2, 14), (RX3, TX3, 11), (RX4, TX4, 6), (RX5, TX5, 10), (RX6, TX6, 2), (RX7, TX7, 8), (RX8, TX8, 3), (RX9, TX9, 5), (RX10, TX10, 4), (RX11, TX11, 14), (RX12, TX12, 70)]
def nst : List (String × Nat × MethodName × String) := [("DeskDays", 19, yX2_init, "DeskDays"), ("DeskDays$House", 11, yX1_init, "DeskDays"), ("DeskDays$House", 20, yX3_init, "DeskDays"), ("DeskDays$House", 27, yX7_init, "DeskDays"), ("DeskDays", 65, yX0_init, "DeskDays")]
end
section
/-! the words that every method carries: the good ones of the tables -/
def tb : List Cond := lw_tbl.filter goodWord
theorem tb_at {w : Cond} (i : Nat) (h : (decide (lw_tbl[i]? = some w) && goodWord w) = true) : w ∈ tb := by
  have h1 : lw_tbl[i]? = some w ∧ goodWord w = true := by
    rw [Bool.and_eq_true] at h
    exact ⟨of_decide_eq_true h.1, h.2⟩
  exact List.mem_filter.mpr ⟨List.mem_of_getElem? h1.1, h1.2⟩
theorem tb_good {w : Cond} (h : w ∈ tb) : goodWord w = true := (List.mem_filter.mp h).2
theorem tb_lw {w : Cond} (h : w ∈ tb) : w ∈ lw_tbl := (List.mem_filter.mp h).1
theorem tb_in {c : Cond} (h : c ∈ tb) : GoodIn tb (c :: tb) := fun w hw => (List.mem_cons.mp hw).elim (fun e => e ▸ ⟨h, good_of_word (tb_good h)⟩) (fun h => ⟨h, good_of_word (tb_good h)⟩)
abbrev Gx : Type := va_G × (ClassId × (ClassId × ClassId))
abbrev tyG (G : Gx) : List (ClassId × FieldType) := [(G.2.1, .int), (G.2.2.1, .long), (G.2.2.2, .boolean)]
def KN (U : State) : Prop := ∀ q ∈ nst, va_Nw (.methodLinkNest q.1 q.2.1 q.2.2.1 q.2.2.2) U
def KX (G : Gx) (U : State) : Prop := va_K G.1 vwCl (tyG G) U ∧ KN U
theorem KX.warm {G : Gx} {s U : State} (hW : s.WarmedH U.vm) (h : KX G s) : KX G U := ⟨va_K.moved hW.alike h.1, fun q hq => va_Nw.warmM hW (h.2 q hq)⟩
theorem KX.call {G : Gx} {U : State} {g : JFrame} {mk : MethodId} {a : Array Value} (h : KX G U) : KX G (U.calling g mk a) := ⟨va_K.moved (u := U) (U := U.calling g mk a) (Vm.Alike.refl U.vm) h.1, fun q hq => va_Nw.same rfl (u := U) (U := U.calling g mk a) rfl (h.2 q hq)⟩
abbrev wsU (y : MethodName) (cc : ByteArray) (n : Nat) (ret : Option FieldType) : List Cond := .code y cc n ret :: tb
abbrev rmD (d c s : Nat) : Room := { frames := d, cells := c, slots := s, locals := 60 * d }
abbrev PcX (G : Gx) (vs : List Value) (w0 : va_W) (sz : Nat) : Array Value → State → Prop := va_Pc vs (fun U => U.heap.size = sz ∧ va_P G.1 vwCl w0 U.heap ∧ KX G U ∧ va_D (fun _ => True) w0)
abbrev BX {S : Type} (G : Gx) (A : Nat → Prop) (w1 : S → va_W) : S → State → Prop := fun u t => va_P G.1 vwCl (w1 u) t.heap ∧ va_D A (w1 u)
def CtI {S : Type} (l : Launch) (y : MethodName) (cc : ByteArray) (n : Nat) (ret : Option FieldType) (rm : Room) (G : Gx) (vs : List Value) (w0 : va_W) (post : Int32 → S → Prop) (w1 : S → va_W) : Prop :=
  ∀ sz : Nat, Met l y (wsU y cc n ret) rm (PcX G vs w0 sz) (va_Qi post (BX G (va_A w0 sz) w1) (va_A w0 sz)) rm.cells rm.slots (va_A w0 sz)
def CtL {S : Type} (l : Launch) (y : MethodName) (cc : ByteArray) (n : Nat) (ret : Option FieldType) (rm : Room) (G : Gx) (vs : List Value) (w0 : va_W) (post : Int64 → S → Prop) (w1 : S → va_W) : Prop :=
  ∀ sz : Nat, Met l y (wsU y cc n ret) rm (PcX G vs w0 sz) (va_Ql post (BX G (va_A w0 sz) w1) (va_A w0 sz)) rm.cells rm.slots (va_A w0 sz)
def CtV {S : Type} (l : Launch) (y : MethodName) (cc : ByteArray) (n : Nat) (ret : Option FieldType) (rm : Room) (G : Gx) (vs : List Value) (w0 : va_W) (post : S → Prop) (w1 : S → va_W) : Prop :=
  ∀ sz : Nat, Met l y (wsU y cc n ret) rm (PcX G vs w0 sz) (va_Qv post (BX G (va_A w0 sz) w1) (va_A w0 sz)) rm.cells rm.slots (va_A w0 sz)
theorem blindX {G : Gx} {vs : List Value} {w0 : va_W} {sz : Nat} : FrameBlind (PcX G vs w0 sz) := fun a U g mk q => by
  obtain ⟨q0, q1, qP, qK, qD⟩ := q
  exact ⟨q0, q1, qP, KX.call qK, qD⟩
theorem fm_of {α β : Type} {f : α → Option β} : ∀ {is : List α} {w : List β}, is.map f = w.map some → is.filterMap f = w
  | [], [], _ => rfl
  | [], _ :: _, h => by simp at h
  | _ :: _, [], h => by simp at h
  | a :: is, b :: w, h => by
    simp only [List.map_cons, List.cons.injEq] at h
    rw [List.filterMap_cons, h.1]
    exact congrArg (b :: ·) (fm_of h.2)
/-- the place of a class in the table, its words, its fields' types and names -/
def ClF (ci : Nat) (C : String) (T : u_T) (N : Nat) (ty : Nat → FieldType) : Prop := vwCl[ci]? = some (C, T, N) ∧ (∀ w ∈ u_ws C T N, w ∈ tb) ∧ (∀ k, k < N → parseFieldDescriptor (T k).2.2.1 = some (ty k)) ∧ ∀ a, a < N → ∀ b, b < N → a ≠ b → (T a).2.1 ≠ (T b).2.1
/-- a method's own facts: virtual, static, constructor -/
def KmV (y : MethodName) (cc : ByteArray) (n : Nat) (ret : Option FieldType) (k : Nat) : Prop := Cond.code y cc n ret ∈ tb ∧ Cond.initialized y.cls ∈ tb ∧ Cond.instanceMethod y ∈ tb ∧ Cond.selects y.cls y y ∈ tb ∧ (y.cls ≠ "java/lang/invoke/MethodHandle" ∧ y.cls ≠ "java/lang/invoke/VarHandle" ∧ (parseMethodDescriptor y.desc).map (fun d => d.parameters.length) = some k)
def KmS (y : MethodName) (cc : ByteArray) (n : Nat) (ret : Option FieldType) (k : Nat) : Prop := Cond.code y cc n ret ∈ tb ∧ Cond.initialized y.cls ∈ tb ∧ Cond.static y ∈ tb ∧ (y.cls ≠ "java/lang/invoke/MethodHandle" ∧ y.cls ≠ "java/lang/invoke/VarHandle" ∧ (parseMethodDescriptor y.desc).map (fun d => d.parameters.length) = some k)
def KmI (y : MethodName) (cc : ByteArray) (n : Nat) (k : Nat) : Prop := Cond.code y cc n none ∈ tb ∧ Cond.initialized y.cls ∈ tb ∧ Cond.instanceMethod y ∈ tb ∧ y.name = "<init>" ∧ (y.cls ≠ "java/lang/invoke/MethodHandle" ∧ y.cls ≠ "java/lang/invoke/VarHandle" ∧ (parseMethodDescriptor y.desc).map (fun d => d.parameters.length) = some k)
theorem vin {i : Int32} {n : Nat} (h : decide (¬ (i < 0 ∨ n ≤ i.toNatClampNeg)) = true) : vp_in i n := of_decide_eq_true (p := ¬ (i < 0 ∨ n ≤ i.toNatClampNeg)) h
section
variable {l : Launch} {y : MethodName} {cc : ByteArray} {n : Nat} {ret : Option FieldType} {rm : Room} {G : Gx} {vs : List Value} {w0 : va_W} {S : Type} {w1 : S → va_W} {own : String}
theorem ctI_of {post : Int32 → S → Prop} (hy : plainName y.cls = true) (hcl : y.cls = own) (hn : (lg_sl vs).length ≤ n)
    (body : ∀ (p : Program) (e : Env) (s : State) (m : MethodId) (below : List Frame) (meth : Method) (c : Code) (A : Nat → Prop) (ls : Array Slot), CallFix p m c cc n s vs.toArray tb own → meth.sig.returnType = ret → meth.locks = false → meth.name = y.name → KX G s → va_P G.1 vwCl w0 s.heap → va_D A w0 → (∀ q, s.heap.size ≤ q → A q) → va_S A s.heap s.heap [] → lv_has ls n (lv_args 0 vs) →
      W p l e rm s m vs.toArray below meth c s.heap [] 0 0 (MQ below (va_Qi post (BX G A w1) A) vs.toArray s rm.cells rm.slots A) (F0 m 0 ls [])) : CtI l y cc n ret rm G vs w0 post w1 := by
  intro sz
  refine Met.ofW (cc := cc) (maxL := n) (ret := ret) hy rfl ?_
  intro p e s m args below meth c s₁ B hml hv
  obtain ⟨rfl, hsz, hP, hK, hD0⟩ := hv
  subst hsz
  have hts := atoms_spec (ws := wsU y cc n ret) B.pre
  have hown : s.vm.findClass own = some m.cls := hcl ▸ findClass_of_methodNamed B.named
  rw [lg_entry_eq]
  exact body p e s m below meth c (va_A w0 s.heap.size) _ ⟨B.exec, B.bytes, hml, hown, fun w h => hts w (List.mem_cons_of_mem _ h)⟩ B.returns B.notSynchronized (name_of_methodNamed B.named B.method).1 hK hP (hD0.self (sz := s.heap.size)) (fun q h => Or.inr h) va_S.rf (lv_entry vs hn)
theorem ctL_of {post : Int64 → S → Prop} (hy : plainName y.cls = true) (hcl : y.cls = own) (hn : (lg_sl vs).length ≤ n)
    (body : ∀ (p : Program) (e : Env) (s : State) (m : MethodId) (below : List Frame) (meth : Method) (c : Code) (A : Nat → Prop) (ls : Array Slot), CallFix p m c cc n s vs.toArray tb own → meth.sig.returnType = ret → meth.locks = false → meth.name = y.name → KX G s → va_P G.1 vwCl w0 s.heap → va_D A w0 → (∀ q, s.heap.size ≤ q → A q) → va_S A s.heap s.heap [] → lv_has ls n (lv_args 0 vs) →
      W p l e rm s m vs.toArray below meth c s.heap [] 0 0 (MQ below (va_Ql post (BX G A w1) A) vs.toArray s rm.cells rm.slots A) (F0 m 0 ls [])) : CtL l y cc n ret rm G vs w0 post w1 := by
  intro sz
  refine Met.ofW (cc := cc) (maxL := n) (ret := ret) hy rfl ?_
  intro p e s m args below meth c s₁ B hml hv
  obtain ⟨rfl, hsz, hP, hK, hD0⟩ := hv
  subst hsz
  have hts := atoms_spec (ws := wsU y cc n ret) B.pre
  have hown : s.vm.findClass own = some m.cls := hcl ▸ findClass_of_methodNamed B.named
  rw [lg_entry_eq]
  exact body p e s m below meth c (va_A w0 s.heap.size) _ ⟨B.exec, B.bytes, hml, hown, fun w h => hts w (List.mem_cons_of_mem _ h)⟩ B.returns B.notSynchronized (name_of_methodNamed B.named B.method).1 hK hP (hD0.self (sz := s.heap.size)) (fun q h => Or.inr h) va_S.rf (lv_entry vs hn)
theorem ctV_of {post : S → Prop} (hy : plainName y.cls = true) (hcl : y.cls = own) (hn : (lg_sl vs).length ≤ n)
    (body : ∀ (p : Program) (e : Env) (s : State) (m : MethodId) (below : List Frame) (meth : Method) (c : Code) (A : Nat → Prop) (ls : Array Slot), CallFix p m c cc n s vs.toArray tb own → meth.sig.returnType = ret → meth.locks = false → meth.name = y.name → KX G s → va_P G.1 vwCl w0 s.heap → va_D A w0 → (∀ q, s.heap.size ≤ q → A q) → va_S A s.heap s.heap [] → lv_has ls n (lv_args 0 vs) →
      W p l e rm s m vs.toArray below meth c s.heap [] 0 0 (MQ below (va_Qv post (BX G A w1) A) vs.toArray s rm.cells rm.slots A) (F0 m 0 ls [])) : CtV l y cc n ret rm G vs w0 post w1 := by
  intro sz
  refine Met.ofW (cc := cc) (maxL := n) (ret := ret) hy rfl ?_
  intro p e s m args below meth c s₁ B hml hv
  obtain ⟨rfl, hsz, hP, hK, hD0⟩ := hv
  subst hsz
  have hts := atoms_spec (ws := wsU y cc n ret) B.pre
  have hown : s.vm.findClass own = some m.cls := hcl ▸ findClass_of_methodNamed B.named
  rw [lg_entry_eq]
  exact body p e s m below meth c (va_A w0 s.heap.size) _ ⟨B.exec, B.bytes, hml, hown, fun w h => hts w (List.mem_cons_of_mem _ h)⟩ B.returns B.notSynchronized (name_of_methodNamed B.named B.method).1 hK hP (hD0.self (sz := s.heap.size)) (fun q h => Or.inr h) va_S.rf (lv_entry vs hn)
end
section
variable {p : Program} {l : Launch} {e : Env} {R : Room} {s : State} {m : MethodId} {args : Array Value} {below : List Frame} {meth : Method} {c : Code} {H : Heap} {locs : List Loc} {cells slots : Nat} {Q : State → Prop} {cc : ByteArray} {nL : Nat} {own : String} {pc : Nat} {ls : Array Slot} {rest : List Value} {G : Gx} {A : Nat → Prop} {ws : va_W} {a : Nat}
/-! a number on the stack by another name -/
theorem cst_i {x y : Int32} (h : x = y) (k : W p l e R s m args below meth c H locs cells slots Q (F0 m pc ls (.int y :: rest))) : W p l e R s m args below meth c H locs cells slots Q (F0 m pc ls (.int x :: rest)) := h ▸ k
theorem cst_l {x y : Int64} (h : x = y) (k : W p l e R s m args below meth c H locs cells slots Q (F0 m pc ls (.long y :: rest))) : W p l e R s m args below meth c H locs cells slots Q (F0 m pc ls (.long x :: rest)) := h ▸ k
theorem g_get (F : CallFix p m c cc nL s args tb own) (hK : KX G s) (hP : va_P G.1 vwCl ws H) (q0 : Nat) {ci : Nat} {fs : List Value} (he : ws[q0]? = some (a, .inr (ci, fs))) {C : String} {T : u_T} {N : Nat} {ty : Nat → FieldType} (hc : ClF ci C T N ty) (k : Nat) (hk : k < N) {index : Nat} (hl : Cond.fieldLink own index (T k).1 (T k).2.1 (T k).2.2.1 ∈ tb) {v : Value} (hv : fs[k]? = some v) (hdg : decode cc pc = .ok (.getfield index, 3))
    (kk : W p l e R s m args below meth c H locs cells slots Q (F0 m (pc + 3) ls (v :: rest))) : W p l e R s m args below meth c H locs cells slots Q (F0 m pc ls (.ref a :: rest)) :=
  va_get F.1 F.2.1 F.2.2.2.2 hc.2.1 F.2.2.2.1 hK.1 hP q0 he hc.1 k hk (F.2.2.2.2 _ hl) (fun _ h => h) hv hdg kk
theorem g_put {w' : va_W} (F : CallFix p m c cc nL s args tb own) (hK : KX G s) (hP : va_P G.1 vwCl ws H) (hD : va_D A ws) (hS : va_S A s.heap H locs) (q0 : Nat) {ci : Nat} {fs : List Value} (he : ws[q0]? = some (a, .inr (ci, fs))) {C : String} {T : u_T} {N : Nat} {ty : Nat → FieldType} (hc : ClF ci C T N ty) (k : Nat) (hk : k < N) {index : Nat} (hl : Cond.fieldLink own index (T k).1 (T k).2.1 (T k).2.2.1 ∈ tb) (hfin : (T k).2.2.2 = false) {v : Value} (hn : narrow (ty k) v = v) (hfit : fits (ty k) v = true) (hlen : k < fs.length) (hdg : decode cc pc = .ok (.putfield index, 3)) (hw : ws.set q0 (a, .inr (ci, fs.set k v)) = w')
    (kk : ∀ (H1 : Heap) (locs1 : List Loc), va_P G.1 vwCl w' H1 → va_D A w' → va_S A s.heap H1 locs1 → W p l e R s m args below meth c H1 locs1 cells slots Q (F0 m (pc + 3) ls rest)) : W p l e R s m args below meth c H locs cells slots Q (F0 m pc ls (v :: .ref a :: rest)) := by
  subst hw
  exact va_put F.1 F.2.1 F.2.2.2.2 hc.2.1 ty hc.2.2.1 hc.2.2.2 F.2.2.2.1 hK.1 hP hD hS q0 he hc.1 k hk (F.2.2.2.2 _ hl) (fun _ h => h) hfin (hc.2.2.1 k hk) hn hfit hlen hdg kk
theorem g_putF {w' : va_W} (F : CallFix p m c cc nL s args tb own) (hnm : meth.name = "<init>") (hK : KX G s) (hP : va_P G.1 vwCl ws H) (hD : va_D A ws) (hS : va_S A s.heap H locs) (q0 : Nat) {ci : Nat} {fs : List Value} (he : ws[q0]? = some (a, .inr (ci, fs))) {C : String} {T : u_T} {N : Nat} {ty : Nat → FieldType} (hc : ClF ci C T N ty) (k : Nat) (hk : k < N) {index : Nat} (hl : Cond.fieldLink own index (T k).1 (T k).2.1 (T k).2.2.1 ∈ tb) (hfin : (T k).2.2.2 = true) (hdecl : (T k).1 = own) {v : Value} (hn : narrow (ty k) v = v) (hfit : fits (ty k) v = true) (hlen : k < fs.length) (hdg : decode cc pc = .ok (.putfield index, 3)) (hw : ws.set q0 (a, .inr (ci, fs.set k v)) = w')
    (kk : ∀ (H1 : Heap) (locs1 : List Loc), va_P G.1 vwCl w' H1 → va_D A w' → va_S A s.heap H1 locs1 → W p l e R s m args below meth c H1 locs1 cells slots Q (F0 m (pc + 3) ls rest)) : W p l e R s m args below meth c H locs cells slots Q (F0 m pc ls (v :: .ref a :: rest)) := by
  subst hw
  exact va_putF F.1 F.2.1 F.2.2.2.2 hc.2.1 ty hc.2.2.1 hc.2.2.2 F.2.2.2.1 hK.1 hP hD hS q0 he hc.1 k hk (F.2.2.2.2 _ hl) (fun _ h => h) hfin hnm hdecl (hc.2.2.1 k hk) hn hfit hlen hdg kk
theorem g_iald (F : CallFix p m c cc nL s args tb own) (hK : KX G s) (hP : va_P G.1 vwCl ws H) (q0 : Nat) {n : Nat} {f : Nat → Int32} (ha : ws[q0]? = some (a, .inl (G.2.1, n, .inl f))) {i : Int32} (hin : vp_in i n) (hdg : decode cc pc = .ok (.iaload, 1)) {v : Int32} (hv : f i.toNatClampNeg = v)
    (kk : W p l e R s m args below meth c H locs cells slots Q (F0 m (pc + 1) ls (.int v :: rest))) : W p l e R s m args below meth c H locs cells slots Q (F0 m pc ls (.int i :: .ref a :: rest)) :=
  va_iald F.1 F.2.1 hK.1 hP q0 0 ha rfl hin hdg (hv ▸ kk)
theorem g_lald (F : CallFix p m c cc nL s args tb own) (hK : KX G s) (hP : va_P G.1 vwCl ws H) (q0 : Nat) {n : Nat} {f : Nat → Int64} (ha : ws[q0]? = some (a, .inl (G.2.2.1, n, .inr (.inl f)))) {i : Int32} (hin : vp_in i n) (hdg : decode cc pc = .ok (.laload, 1)) {v : Int64} (hv : f i.toNatClampNeg = v)
    (kk : W p l e R s m args below meth c H locs cells slots Q (F0 m (pc + 1) ls (.long v :: rest))) : W p l e R s m args below meth c H locs cells slots Q (F0 m pc ls (.int i :: .ref a :: rest)) :=
  va_lald F.1 F.2.1 hK.1 hP q0 1 ha rfl hin hdg (hv ▸ kk)
theorem g_iast (F : CallFix p m c cc nL s args tb own) (hK : KX G s) (hP : va_P G.1 vwCl ws H) (hD : va_D A ws) (hS : va_S A s.heap H locs) (q0 : Nat) {n : Nat} {f : Nat → Int32} (ha : ws[q0]? = some (a, .inl (G.2.1, n, .inl f))) {i x : Int32} (hin : vp_in i n) (hdg : decode cc pc = .ok (.iastore, 1)) (w' : (Nat → Int32) → va_W) (hw : ∀ f1, ws.set q0 (a, .inl (G.2.1, n, .inl f1)) = w' f1)
    (kk : ∀ (f1 : Nat → Int32) (H1 : Heap) (locs1 : List Loc), f1 = upd f i.toNatClampNeg x → va_P G.1 vwCl (w' f1) H1 → va_D A (w' f1) → va_S A s.heap H1 locs1 → W p l e R s m args below meth c H1 locs1 cells slots Q (F0 m (pc + 1) ls rest)) : W p l e R s m args below meth c H locs cells slots Q (F0 m pc ls (.int x :: .int i :: .ref a :: rest)) :=
  va_iast F.1 F.2.1 hK.1 hP hD hS q0 0 ha rfl hin hdg (fun H1 locs1 h1 h2 h3 => kk _ H1 locs1 rfl (hw _ ▸ h1) (hw _ ▸ h2) h3)
theorem g_last (F : CallFix p m c cc nL s args tb own) (hK : KX G s) (hP : va_P G.1 vwCl ws H) (hD : va_D A ws) (hS : va_S A s.heap H locs) (q0 : Nat) {n : Nat} {f : Nat → Int64} (ha : ws[q0]? = some (a, .inl (G.2.2.1, n, .inr (.inl f)))) {i : Int32} {x : Int64} (hin : vp_in i n) (hdg : decode cc pc = .ok (.lastore, 1)) (w' : (Nat → Int64) → va_W) (hw : ∀ f1, ws.set q0 (a, .inl (G.2.2.1, n, .inr (.inl f1))) = w' f1)
    (kk : ∀ (f1 : Nat → Int64) (H1 : Heap) (locs1 : List Loc), f1 = vp_updL f i.toNatClampNeg x → va_P G.1 vwCl (w' f1) H1 → va_D A (w' f1) → va_S A s.heap H1 locs1 → W p l e R s m args below meth c H1 locs1 cells slots Q (F0 m (pc + 1) ls rest)) : W p l e R s m args below meth c H locs cells slots Q (F0 m pc ls (.long x :: .int i :: .ref a :: rest)) :=
  va_last F.1 F.2.1 hK.1 hP hD hS q0 1 ha rfl hin hdg (fun H1 locs1 h1 h2 h3 => kk _ H1 locs1 rfl (hw _ ▸ h1) (hw _ ▸ h2) h3)
theorem g_ialen (F : CallFix p m c cc nL s args tb own) (hK : KX G s) (hP : va_P G.1 vwCl ws H) (q0 : Nat) {x : vp_A} (ha : ws[q0]? = some (a, .inl (G.2.1, x))) {v : Int32} (hv : Int32.ofNat x.1 = v) (hdg : decode cc pc = .ok (.arraylength, 1))
    (kk : W p l e R s m args below meth c H locs cells slots Q (F0 m (pc + 1) ls (.int v :: rest))) : W p l e R s m args below meth c H locs cells slots Q (F0 m pc ls (.ref a :: rest)) :=
  va_alen F.1 F.2.1 hK.1 hP q0 0 ha rfl hv hdg kk
theorem g_lalen (F : CallFix p m c cc nL s args tb own) (hK : KX G s) (hP : va_P G.1 vwCl ws H) (q0 : Nat) {x : vp_A} (ha : ws[q0]? = some (a, .inl (G.2.2.1, x))) {v : Int32} (hv : Int32.ofNat x.1 = v) (hdg : decode cc pc = .ok (.arraylength, 1))
    (kk : W p l e R s m args below meth c H locs cells slots Q (F0 m (pc + 1) ls (.int v :: rest))) : W p l e R s m args below meth c H locs cells slots Q (F0 m pc ls (.ref a :: rest)) :=
  va_alen F.1 F.2.1 hK.1 hP q0 1 ha rfl hv hdg kk
theorem g_newI (F : CallFix p m c cc nL s args tb own) (hw : Cond.arrayClass .int ∈ tb) (hK : KX G s) (hP : va_P G.1 vwCl ws H) (hD : va_D A ws) (hS : va_S A s.heap H locs) (hA : ∀ q, s.heap.size ≤ q → A q) {n : Int32} {N : Nat} (hn : ¬ n < 0) (hN : n.toNatClampNeg = N) (hbytes : N * componentBytes .int ≤ 536870912) (hcells : cells + 1 ≤ R.cells) (hslots : slots + N ≤ R.slots) (hdg : decode cc pc = .ok (.newarray .int, 2)) {k1 s1 : Nat} (hk : cells + 1 = k1) (hs : slots + N = s1)
    (kk : ∀ (q : Nat) (H1 : Heap), va_P G.1 vwCl (ws ++ [(q, .inl (G.2.1, N, .inl (fun _ => 0)))]) H1 → va_D A (ws ++ [(q, .inl (G.2.1, N, .inl (fun _ => 0)))]) → va_S A s.heap H1 locs → W p l e R s m args below meth c H1 locs k1 s1 Q (F0 m (pc + 2) ls (.ref q :: rest))) : W p l e R s m args below meth c H locs cells slots Q (F0 m pc ls (.int n :: rest)) := by
  subst hk; subst hs
  refine va_newa (atype := .int) (ty := .int) (a0 := (N, .inl (fun _ => 0))) F.1 F.2.1 (F.2.2.2.2 _ hw) rfl hK.1 hP hD hS hA (fun _ => rfl) hn hN hbytes hcells hslots hdg (fun q cA H1 hK1 hP1 hD1 hS1 => ?_)
  have e1 : s.vm.findClass ("[" ++ (FieldType.int).toString) = some cA := (hK1.2 3 (cA, .int) rfl).2
  have e2 : s.vm.findClass ("[" ++ (FieldType.int).toString) = some G.2.1 := (hK.1.2 0 (G.2.1, .int) rfl).2
  obtain rfl : G.2.1 = cA := Option.some.inj (e2.symm.trans e1)
  exact kk q H1 hP1 hD1 hS1
theorem g_newJ (F : CallFix p m c cc nL s args tb own) (hw : Cond.arrayClass .long ∈ tb) (hK : KX G s) (hP : va_P G.1 vwCl ws H) (hD : va_D A ws) (hS : va_S A s.heap H locs) (hA : ∀ q, s.heap.size ≤ q → A q) {n : Int32} {N : Nat} (hn : ¬ n < 0) (hN : n.toNatClampNeg = N) (hbytes : N * componentBytes .long ≤ 536870912) (hcells : cells + 1 ≤ R.cells) (hslots : slots + N ≤ R.slots) (hdg : decode cc pc = .ok (.newarray .long, 2)) {k1 s1 : Nat} (hk : cells + 1 = k1) (hs : slots + N = s1)
    (kk : ∀ (q : Nat) (H1 : Heap), va_P G.1 vwCl (ws ++ [(q, .inl (G.2.2.1, N, .inr (.inl (fun _ => 0))))]) H1 → va_D A (ws ++ [(q, .inl (G.2.2.1, N, .inr (.inl (fun _ => 0))))]) → va_S A s.heap H1 locs → W p l e R s m args below meth c H1 locs k1 s1 Q (F0 m (pc + 2) ls (.ref q :: rest))) : W p l e R s m args below meth c H locs cells slots Q (F0 m pc ls (.int n :: rest)) := by
  subst hk; subst hs
  refine va_newa (atype := .long) (ty := .long) (a0 := (N, .inr (.inl (fun _ => 0)))) F.1 F.2.1 (F.2.2.2.2 _ hw) rfl hK.1 hP hD hS hA (fun _ => rfl) hn hN hbytes hcells hslots hdg (fun q cA H1 hK1 hP1 hD1 hS1 => ?_)
  have e1 : s.vm.findClass ("[" ++ (FieldType.long).toString) = some cA := (hK1.2 3 (cA, .long) rfl).2
  have e2 : s.vm.findClass ("[" ++ (FieldType.long).toString) = some G.2.2.1 := (hK.1.2 1 (G.2.2.1, .long) rfl).2
  obtain rfl : G.2.2.1 = cA := Option.some.inj (e2.symm.trans e1)
  exact kk q H1 hP1 hD1 hS1
theorem g_newZ (F : CallFix p m c cc nL s args tb own) (hw : Cond.arrayClass .boolean ∈ tb) (hK : KX G s) (hP : va_P G.1 vwCl ws H) (hD : va_D A ws) (hS : va_S A s.heap H locs) (hA : ∀ q, s.heap.size ≤ q → A q) {n : Int32} {N : Nat} (hn : ¬ n < 0) (hN : n.toNatClampNeg = N) (hbytes : N * componentBytes .boolean ≤ 536870912) (hcells : cells + 1 ≤ R.cells) (hslots : slots + N ≤ R.slots) (hdg : decode cc pc = .ok (.newarray .boolean, 2)) {k1 s1 : Nat} (hk : cells + 1 = k1) (hs : slots + N = s1)
    (kk : ∀ (q : Nat) (H1 : Heap), va_P G.1 vwCl (ws ++ [(q, .inl (G.2.2.2, N, .inl (fun _ => 0)))]) H1 → va_D A (ws ++ [(q, .inl (G.2.2.2, N, .inl (fun _ => 0)))]) → va_S A s.heap H1 locs → W p l e R s m args below meth c H1 locs k1 s1 Q (F0 m (pc + 2) ls (.ref q :: rest))) : W p l e R s m args below meth c H locs cells slots Q (F0 m pc ls (.int n :: rest)) := by
  subst hk; subst hs
  refine va_newa (atype := .boolean) (ty := .boolean) (a0 := (N, .inl (fun _ => 0))) F.1 F.2.1 (F.2.2.2.2 _ hw) rfl hK.1 hP hD hS hA (fun _ => rfl) hn hN hbytes hcells hslots hdg (fun q cA H1 hK1 hP1 hD1 hS1 => ?_)
  have e1 : s.vm.findClass ("[" ++ (FieldType.boolean).toString) = some cA := (hK1.2 3 (cA, .boolean) rfl).2
  have e2 : s.vm.findClass ("[" ++ (FieldType.boolean).toString) = some G.2.2.2 := (hK.1.2 2 (G.2.2.2, .boolean) rfl).2
  obtain rfl : G.2.2.2 = cA := Option.some.inj (e2.symm.trans e1)
  exact kk q H1 hP1 hD1 hS1
theorem g_new (F : CallFix p m c cc nL s args tb own) (hK : KX G s) (hP : va_P G.1 vwCl ws H) (hD : va_D A ws) (hS : va_S A s.heap H locs) (hA : ∀ q, s.heap.size ≤ q → A q) {ci : Nat} {C : String} {T : u_T} {N : Nat} {ty : Nat → FieldType} (hc : ClF ci C T N ty) {index : Nat} (hcl : Cond.classLink own index C ∈ tb) (hin : Cond.instantiable C N ∈ tb) (hini : Cond.initialized C ∈ tb) {fs : List Value} (hfs : ∀ j, j < N → defaultValue (ty j) = vp_V fs j) (hcells : cells + 1 ≤ R.cells) (hslots : slots + N ≤ R.slots) (hdg : decode cc pc = .ok (.new index, 3)) {k1 s1 : Nat} (hk : cells + 1 = k1) (hs : slots + N = s1)
    (kk : ∀ (q : Nat) (H1 : Heap), va_P G.1 vwCl (ws ++ [(q, .inr (ci, fs))]) H1 → va_D A (ws ++ [(q, .inr (ci, fs))]) → va_S A s.heap H1 locs → W p l e R s m args below meth c H1 locs k1 s1 Q (F0 m (pc + 3) ls (.ref q :: rest))) : W p l e R s m args below meth c H locs cells slots Q (F0 m pc ls rest) := by
  subst hk; subst hs
  exact va_new F.1 F.2.1 F.2.2.2.2 hc.2.1 ty hc.2.2.1 F.2.2.2.1 (F.2.2.2.2 _ hcl) (F.2.2.2.2 _ hin) (F.2.2.2.2 _ hini) hK.1 hP hD hS hA hc.1 hfs hcells hslots hdg kk
theorem g_oinit (F : CallFix p m c cc nL s args tb own) {idx : Nat} (hl : Cond.methodLink own idx objectInit ∈ tb) (hi : Cond.instanceMethod objectInit ∈ tb) (hcd : Cond.code objectInit ⟨#[0xb1]⟩ 1 none ∈ tb) (hsz : ls.size = nL) (hdg : decode cc pc = .ok (.invokespecial idx, 3)) (hf : 1 ≤ R.frames) (hlo : (rest.map fun v => v.category).sum + 12 ≤ R.locals)
    (kk : W p l e R s m args below meth c H locs cells slots Q (F0 m (pc + 3) ls rest)) : W p l e R s m args below meth c H locs cells slots Q (F0 m pc ls (.ref a :: rest)) :=
  W.objInit F.1 F.2.1 F.2.2.2.1 (F.2.2.2.2 _ hl) (F.2.2.2.2 _ hi) (F.2.2.2.2 _ hcd) rfl (hsz.trans F.2.2.1.symm) rfl hdg hf (by simpa [JFrame.monitorRoom] using hlo) kk
end
section
variable {p : Program} {l : Launch} {e : Env} {R : Room} {s : State} {m : MethodId} {args : Array Value} {below : List Frame} {meth : Method} {c : Code} {H : Heap} {locs : List Loc} {cells slots : Nat} {cc : ByteArray} {nL : Nat} {own : String} {pc : Nat} {ls : Array Slot} {G : Gx} {A : Nat → Prop} {ws : va_W} {S : Type} {w1 : S → va_W}
theorem r_i {post : Int32 → S → Prop} {v : Int32} (F : CallFix p m c cc nL s args tb own) (hr : meth.sig.returnType = some .int) (hlk : meth.locks = false) (hP : va_P G.1 vwCl ws H) (hD : va_D A ws) (hS : va_S A s.heap H locs) (u : S) (is : List Nat) (hnd : va_nd is = true) (his : is.map (fun i => ws[i]?) = (w1 u).map some) (hp : post v u) (hdg : decode cc pc = .ok (.ireturn, 1)) {k n : Nat} (h1 : cells ≤ k) (h2 : slots ≤ n) :
    W p l e R s m args below meth c H locs cells slots (MQ below (va_Qi post (BX G A w1) A) args s k n A) (F0 m pc ls [.int v]) :=
  W.widen h1 h2 (W.iret F.1 F.2.1 hr (fun t ht _ => ⟨⟨v, u, rfl, hp, by rw [ht]; exact hP.sub is (fm_of his), hD.sub is hnd his⟩, hS.F ht⟩) hS.2.2 hdg hlk)
theorem r_z {post : Int32 → S → Prop} {v : Int32} {ty : FieldType} (F : CallFix p m c cc nL s args tb own) (hr : meth.sig.returnType = some ty) (hlk : meth.locks = false) (hP : va_P G.1 vwCl ws H) (hD : va_D A ws) (hS : va_S A s.heap H locs) (u : S) (is : List Nat) (hnd : va_nd is = true) (his : is.map (fun i => ws[i]?) = (w1 u).map some) (hp : post v u) (hdg : decode cc pc = .ok (.ireturn, 1)) {k n : Nat} (h1 : cells ≤ k) (h2 : slots ≤ n) (hn : narrow ty (.int v) = .int v) :
    W p l e R s m args below meth c H locs cells slots (MQ below (va_Qi post (BX G A w1) A) args s k n A) (F0 m pc ls [.int v]) :=
  W.widen h1 h2 (W.zret F.1 F.2.1 hr hn (fun t ht _ => ⟨⟨v, u, rfl, hp, by rw [ht]; exact hP.sub is (fm_of his), hD.sub is hnd his⟩, hS.F ht⟩) hS.2.2 hdg hlk)
theorem r_l {post : Int64 → S → Prop} {v : Int64} (F : CallFix p m c cc nL s args tb own) (hr : meth.sig.returnType = some .long) (hlk : meth.locks = false) (hP : va_P G.1 vwCl ws H) (hD : va_D A ws) (hS : va_S A s.heap H locs) (u : S) (is : List Nat) (hnd : va_nd is = true) (his : is.map (fun i => ws[i]?) = (w1 u).map some) (hp : post v u) (hdg : decode cc pc = .ok (.lreturn, 1)) {k n : Nat} (h1 : cells ≤ k) (h2 : slots ≤ n) :
    W p l e R s m args below meth c H locs cells slots (MQ below (va_Ql post (BX G A w1) A) args s k n A) (F0 m pc ls [.long v]) :=
  W.widen h1 h2 (W.lret F.1 F.2.1 hr (fun t ht _ => ⟨⟨v, u, rfl, hp, by rw [ht]; exact hP.sub is (fm_of his), hD.sub is hnd his⟩, hS.F ht⟩) hS.2.2 hdg hlk)
theorem r_v {post : S → Prop} (F : CallFix p m c cc nL s args tb own) (hr : meth.sig.returnType = none) (hlk : meth.locks = false) (hP : va_P G.1 vwCl ws H) (hD : va_D A ws) (hS : va_S A s.heap H locs) (u : S) (is : List Nat) (hnd : va_nd is = true) (his : is.map (fun i => ws[i]?) = (w1 u).map some) (hp : post u) (hdg : decode cc pc = .ok (.return_, 1)) {k n : Nat} (h1 : cells ≤ k) (h2 : slots ≤ n) :
    W p l e R s m args below meth c H locs cells slots (MQ below (va_Qv post (BX G A w1) A) args s k n A) (F0 m pc ls []) :=
  W.widen h1 h2 (W.vret F.1 F.2.1 hr (fun t ht _ => ⟨⟨u, rfl, hp, by rw [ht]; exact hP.sub is (fm_of his), hD.sub is hnd his⟩, hS.F ht⟩) hS.2.2 hdg hlk)
end
section
variable {p : Program} {l : Launch} {e : Env} {R : Room} {s : State} {m : MethodId} {args : Array Value} {below : List Frame} {meth : Method} {c : Code} {H : Heap} {locs : List Loc} {cells slots : Nat} {Q : State → Prop} {cc : ByteArray} {nL : Nat} {own : String} {pc : Nat} {ls : Array Slot} {rest st : List Value} {G : Gx} {A : Nat → Prop} {ws wr w0 : va_W} {y : MethodName} {bytes : ByteArray} {maxL index b k1 s1 : Nat} {ret : Option FieldType} {rm : Room} {As : List Value} {S : Type} {w1 : S → va_W}
theorem cvi {post : Int32 → S → Prop} (F : CallFix p m c cc nL s args tb own) (hK : KX G s) (hP : va_P G.1 vwCl ws H) (hD : va_D A ws) (hS : va_S A s.heap H locs) (hA : ∀ q, s.heap.size ≤ q → A q) (hM : CtI l y bytes maxL ret rm G (.ref b :: As) w0 post w1) (km : KmV y bytes maxL ret As.length) (hl : Cond.methodLink own index y ∈ tb) {ci : Nat} {fs : List Value} {C : String} {T : u_T} {N : Nat} {ty : Nat → FieldType} (hc : ClF ci C T N ty) (hC0 : C = y.cls) (q0 : Nat) (he : w0[q0]? = some (b, .inr (ci, fs))) (hR : rm.frames + 1 ≤ R.frames ∧ 8 + (maxL + 11) + rm.locals ≤ R.locals) (isC isR : List Nat) (hCn : va_nd isC = true) (hC : isC.map (fun i => ws[i]?) = w0.map some) (hRr : isR.map (fun i => ws[i]?) = wr.map some) (hRn : va_nd isR = true) (hdis : ∀ i ∈ isR, i ∉ isC) (hsz : ls.size = nL) (hst : st = As.reverse ++ .ref b :: rest) (hW : (rest.map fun v => v.category).sum ≤ 8) (hdg : decode cc pc = .ok (.invokevirtual index, 3)) (hf : cells + rm.cells ≤ R.cells ∧ slots + rm.slots ≤ R.slots) (hk : cells + rm.cells = k1) (hs : slots + rm.slots = s1)
    (kk : ∀ (r : Int32) (u : S) (H1 : Heap) (locs1 : List Loc), post r u → va_P G.1 vwCl (wr ++ w1 u) H1 → va_D A (wr ++ w1 u) → va_S A s.heap H1 locs1 → W p l e R s m args below meth c H1 locs1 k1 s1 Q (F0 m (pc + 3) ls (.int r :: rest))) : W p l e R s m args below meth c H locs cells slots Q (F0 m pc ls st) := by
  subst hk; subst hs
  have hPc := hP.sub (ws' := w0) isC (fm_of hC)
  have hDc := hD.sub (ws' := w0) isC hCn hC
  have hFc := va_free (wc := w0) hD hS hA isC hC
  subst hC0
  have cw : CallW R s args own y.cls index y bytes maxL ret (wsU y bytes maxL ret) rm rm.cells rm.slots As.length := ⟨callB_of As.length F.2.2.2.2 (tb_in km.1) rfl rfl rfl (F.2.2.2.2 _ km.2.1) (F.2.2.2.2 _ hl) km.2.2.2.2 hR, F.2.2.2.2 _ km.2.2.1, F.2.2.2.2 _ km.2.2.2.1⟩
  refine va_calli (va_runV (As := As) (rest := rest) F (hM H.size) cw ⟨blindX, va_recv hK.1 hPc hc.1 he, fun U hU hW => ⟨rfl, by rw [hU], by rw [hU]; exact hPc, KX.warm hW hK, hDc.weaken (fun _ _ _ _ => trivial)⟩⟩ rfl rfl hsz hst (lv_room hW) hdg hf) hS (fun q _ h => hFc q h) hFc ?_
  intro r u t H1 locs1 ht hvm hw hB hz1 hk1 hS1
  have hP1 := hB.1
  rw [ht] at hP1
  obtain ⟨hP2, hD2⟩ := va_join (wr := wr) (w1 := w1 u) hP hD isC isR hC hRr hRn hdis hk1 hFc hP1 hB.2
  exact kk r u H1 locs1 hw hP2 hD2 hS1
theorem cvl {post : Int64 → S → Prop} (F : CallFix p m c cc nL s args tb own) (hK : KX G s) (hP : va_P G.1 vwCl ws H) (hD : va_D A ws) (hS : va_S A s.heap H locs) (hA : ∀ q, s.heap.size ≤ q → A q) (hM : CtL l y bytes maxL ret rm G (.ref b :: As) w0 post w1) (km : KmV y bytes maxL ret As.length) (hl : Cond.methodLink own index y ∈ tb) {ci : Nat} {fs : List Value} {C : String} {T : u_T} {N : Nat} {ty : Nat → FieldType} (hc : ClF ci C T N ty) (hC0 : C = y.cls) (q0 : Nat) (he : w0[q0]? = some (b, .inr (ci, fs))) (hR : rm.frames + 1 ≤ R.frames ∧ 8 + (maxL + 11) + rm.locals ≤ R.locals) (isC isR : List Nat) (hCn : va_nd isC = true) (hC : isC.map (fun i => ws[i]?) = w0.map some) (hRr : isR.map (fun i => ws[i]?) = wr.map some) (hRn : va_nd isR = true) (hdis : ∀ i ∈ isR, i ∉ isC) (hsz : ls.size = nL) (hst : st = As.reverse ++ .ref b :: rest) (hW : (rest.map fun v => v.category).sum ≤ 8) (hdg : decode cc pc = .ok (.invokevirtual index, 3)) (hf : cells + rm.cells ≤ R.cells ∧ slots + rm.slots ≤ R.slots) (hk : cells + rm.cells = k1) (hs : slots + rm.slots = s1)
    (kk : ∀ (r : Int64) (u : S) (H1 : Heap) (locs1 : List Loc), post r u → va_P G.1 vwCl (wr ++ w1 u) H1 → va_D A (wr ++ w1 u) → va_S A s.heap H1 locs1 → W p l e R s m args below meth c H1 locs1 k1 s1 Q (F0 m (pc + 3) ls (.long r :: rest))) : W p l e R s m args below meth c H locs cells slots Q (F0 m pc ls st) := by
  subst hk; subst hs
  have hPc := hP.sub (ws' := w0) isC (fm_of hC)
  have hDc := hD.sub (ws' := w0) isC hCn hC
  have hFc := va_free (wc := w0) hD hS hA isC hC
  subst hC0
  have cw : CallW R s args own y.cls index y bytes maxL ret (wsU y bytes maxL ret) rm rm.cells rm.slots As.length := ⟨callB_of As.length F.2.2.2.2 (tb_in km.1) rfl rfl rfl (F.2.2.2.2 _ km.2.1) (F.2.2.2.2 _ hl) km.2.2.2.2 hR, F.2.2.2.2 _ km.2.2.1, F.2.2.2.2 _ km.2.2.2.1⟩
  refine va_calll (va_runV (As := As) (rest := rest) F (hM H.size) cw ⟨blindX, va_recv hK.1 hPc hc.1 he, fun U hU hW => ⟨rfl, by rw [hU], by rw [hU]; exact hPc, KX.warm hW hK, hDc.weaken (fun _ _ _ _ => trivial)⟩⟩ rfl rfl hsz hst (lv_room hW) hdg hf) hS (fun q _ h => hFc q h) hFc ?_
  intro r u t H1 locs1 ht hvm hw hB hz1 hk1 hS1
  have hP1 := hB.1
  rw [ht] at hP1
  obtain ⟨hP2, hD2⟩ := va_join (wr := wr) (w1 := w1 u) hP hD isC isR hC hRr hRn hdis hk1 hFc hP1 hB.2
  exact kk r u H1 locs1 hw hP2 hD2 hS1
theorem cvv {post : S → Prop} (F : CallFix p m c cc nL s args tb own) (hK : KX G s) (hP : va_P G.1 vwCl ws H) (hD : va_D A ws) (hS : va_S A s.heap H locs) (hA : ∀ q, s.heap.size ≤ q → A q) (hM : CtV l y bytes maxL ret rm G (.ref b :: As) w0 post w1) (km : KmV y bytes maxL ret As.length) (hl : Cond.methodLink own index y ∈ tb) {ci : Nat} {fs : List Value} {C : String} {T : u_T} {N : Nat} {ty : Nat → FieldType} (hc : ClF ci C T N ty) (hC0 : C = y.cls) (q0 : Nat) (he : w0[q0]? = some (b, .inr (ci, fs))) (hR : rm.frames + 1 ≤ R.frames ∧ 8 + (maxL + 11) + rm.locals ≤ R.locals) (isC isR : List Nat) (hCn : va_nd isC = true) (hC : isC.map (fun i => ws[i]?) = w0.map some) (hRr : isR.map (fun i => ws[i]?) = wr.map some) (hRn : va_nd isR = true) (hdis : ∀ i ∈ isR, i ∉ isC) (hsz : ls.size = nL) (hst : st = As.reverse ++ .ref b :: rest) (hW : (rest.map fun v => v.category).sum ≤ 8) (hdg : decode cc pc = .ok (.invokevirtual index, 3)) (hf : cells + rm.cells ≤ R.cells ∧ slots + rm.slots ≤ R.slots) (hk : cells + rm.cells = k1) (hs : slots + rm.slots = s1)
    (kk : ∀ (u : S) (H1 : Heap) (locs1 : List Loc), post u → va_P G.1 vwCl (wr ++ w1 u) H1 → va_D A (wr ++ w1 u) → va_S A s.heap H1 locs1 → W p l e R s m args below meth c H1 locs1 k1 s1 Q (F0 m (pc + 3) ls rest)) : W p l e R s m args below meth c H locs cells slots Q (F0 m pc ls st) := by
  subst hk; subst hs
  have hPc := hP.sub (ws' := w0) isC (fm_of hC)
  have hDc := hD.sub (ws' := w0) isC hCn hC
  have hFc := va_free (wc := w0) hD hS hA isC hC
  subst hC0
  have cw : CallW R s args own y.cls index y bytes maxL ret (wsU y bytes maxL ret) rm rm.cells rm.slots As.length := ⟨callB_of As.length F.2.2.2.2 (tb_in km.1) rfl rfl rfl (F.2.2.2.2 _ km.2.1) (F.2.2.2.2 _ hl) km.2.2.2.2 hR, F.2.2.2.2 _ km.2.2.1, F.2.2.2.2 _ km.2.2.2.1⟩
  refine va_callv (va_runV (As := As) (rest := rest) F (hM H.size) cw ⟨blindX, va_recv hK.1 hPc hc.1 he, fun U hU hW => ⟨rfl, by rw [hU], by rw [hU]; exact hPc, KX.warm hW hK, hDc.weaken (fun _ _ _ _ => trivial)⟩⟩ rfl rfl hsz hst (lv_room hW) hdg hf) hS (fun q _ h => hFc q h) hFc ?_
  intro u t H1 locs1 ht hvm hw hB hz1 hk1 hS1
  have hP1 := hB.1
  rw [ht] at hP1
  obtain ⟨hP2, hD2⟩ := va_join (wr := wr) (w1 := w1 u) hP hD isC isR hC hRr hRn hdis hk1 hFc hP1 hB.2
  exact kk u H1 locs1 hw hP2 hD2 hS1
theorem csi {post : Int32 → S → Prop} (F : CallFix p m c cc nL s args tb own) (hK : KX G s) (hP : va_P G.1 vwCl ws H) (hD : va_D A ws) (hS : va_S A s.heap H locs) (hA : ∀ q, s.heap.size ≤ q → A q) (hM : CtI l y bytes maxL ret rm G As w0 post w1) (km : KmS y bytes maxL ret As.length) (hl : Cond.methodLink own index y ∈ tb) (hR : rm.frames + 1 ≤ R.frames ∧ 8 + (maxL + 11) + rm.locals ≤ R.locals) (isC isR : List Nat) (hCn : va_nd isC = true) (hC : isC.map (fun i => ws[i]?) = w0.map some) (hRr : isR.map (fun i => ws[i]?) = wr.map some) (hRn : va_nd isR = true) (hdis : ∀ i ∈ isR, i ∉ isC) (hsz : ls.size = nL) (hst : st = As.reverse ++ rest) (hW : (rest.map fun v => v.category).sum ≤ 8) (hdg : decode cc pc = .ok (.invokestatic index, 3)) (hf : cells + rm.cells ≤ R.cells ∧ slots + rm.slots ≤ R.slots) (hk : cells + rm.cells = k1) (hs : slots + rm.slots = s1)
    (kk : ∀ (r : Int32) (u : S) (H1 : Heap) (locs1 : List Loc), post r u → va_P G.1 vwCl (wr ++ w1 u) H1 → va_D A (wr ++ w1 u) → va_S A s.heap H1 locs1 → W p l e R s m args below meth c H1 locs1 k1 s1 Q (F0 m (pc + 3) ls (.int r :: rest))) : W p l e R s m args below meth c H locs cells slots Q (F0 m pc ls st) := by
  subst hk; subst hs
  have hPc := hP.sub (ws' := w0) isC (fm_of hC)
  have hDc := hD.sub (ws' := w0) isC hCn hC
  have hFc := va_free (wc := w0) hD hS hA isC hC
  have cw : CallB R s args own index y bytes maxL ret (wsU y bytes maxL ret) rm rm.cells rm.slots As.length ∧ (Cond.static y).before args s = true := ⟨callB_of As.length F.2.2.2.2 (tb_in km.1) rfl rfl rfl (F.2.2.2.2 _ km.2.1) (F.2.2.2.2 _ hl) km.2.2.2 hR, F.2.2.2.2 _ km.2.2.1⟩
  refine va_calli (va_runS (As := As) (rest := rest) F (hM H.size) cw ⟨blindX, fun U hU hW => ⟨rfl, by rw [hU], by rw [hU]; exact hPc, KX.warm hW hK, hDc.weaken (fun _ _ _ _ => trivial)⟩⟩ rfl rfl hsz hst (lv_room hW) hdg hf) hS (fun q _ h => hFc q h) hFc ?_
  intro r u t H1 locs1 ht hvm hw hB hz1 hk1 hS1
  have hP1 := hB.1
  rw [ht] at hP1
  obtain ⟨hP2, hD2⟩ := va_join (wr := wr) (w1 := w1 u) hP hD isC isR hC hRr hRn hdis hk1 hFc hP1 hB.2
  exact kk r u H1 locs1 hw hP2 hD2 hS1
theorem csl {post : Int64 → S → Prop} (F : CallFix p m c cc nL s args tb own) (hK : KX G s) (hP : va_P G.1 vwCl ws H) (hD : va_D A ws) (hS : va_S A s.heap H locs) (hA : ∀ q, s.heap.size ≤ q → A q) (hM : CtL l y bytes maxL ret rm G As w0 post w1) (km : KmS y bytes maxL ret As.length) (hl : Cond.methodLink own index y ∈ tb) (hR : rm.frames + 1 ≤ R.frames ∧ 8 + (maxL + 11) + rm.locals ≤ R.locals) (isC isR : List Nat) (hCn : va_nd isC = true) (hC : isC.map (fun i => ws[i]?) = w0.map some) (hRr : isR.map (fun i => ws[i]?) = wr.map some) (hRn : va_nd isR = true) (hdis : ∀ i ∈ isR, i ∉ isC) (hsz : ls.size = nL) (hst : st = As.reverse ++ rest) (hW : (rest.map fun v => v.category).sum ≤ 8) (hdg : decode cc pc = .ok (.invokestatic index, 3)) (hf : cells + rm.cells ≤ R.cells ∧ slots + rm.slots ≤ R.slots) (hk : cells + rm.cells = k1) (hs : slots + rm.slots = s1)
    (kk : ∀ (r : Int64) (u : S) (H1 : Heap) (locs1 : List Loc), post r u → va_P G.1 vwCl (wr ++ w1 u) H1 → va_D A (wr ++ w1 u) → va_S A s.heap H1 locs1 → W p l e R s m args below meth c H1 locs1 k1 s1 Q (F0 m (pc + 3) ls (.long r :: rest))) : W p l e R s m args below meth c H locs cells slots Q (F0 m pc ls st) := by
  subst hk; subst hs
  have hPc := hP.sub (ws' := w0) isC (fm_of hC)
  have hDc := hD.sub (ws' := w0) isC hCn hC
  have hFc := va_free (wc := w0) hD hS hA isC hC
  have cw : CallB R s args own index y bytes maxL ret (wsU y bytes maxL ret) rm rm.cells rm.slots As.length ∧ (Cond.static y).before args s = true := ⟨callB_of As.length F.2.2.2.2 (tb_in km.1) rfl rfl rfl (F.2.2.2.2 _ km.2.1) (F.2.2.2.2 _ hl) km.2.2.2 hR, F.2.2.2.2 _ km.2.2.1⟩
  refine va_calll (va_runS (As := As) (rest := rest) F (hM H.size) cw ⟨blindX, fun U hU hW => ⟨rfl, by rw [hU], by rw [hU]; exact hPc, KX.warm hW hK, hDc.weaken (fun _ _ _ _ => trivial)⟩⟩ rfl rfl hsz hst (lv_room hW) hdg hf) hS (fun q _ h => hFc q h) hFc ?_
  intro r u t H1 locs1 ht hvm hw hB hz1 hk1 hS1
  have hP1 := hB.1
  rw [ht] at hP1
  obtain ⟨hP2, hD2⟩ := va_join (wr := wr) (w1 := w1 u) hP hD isC isR hC hRr hRn hdis hk1 hFc hP1 hB.2
  exact kk r u H1 locs1 hw hP2 hD2 hS1
theorem csv {post : S → Prop} (F : CallFix p m c cc nL s args tb own) (hK : KX G s) (hP : va_P G.1 vwCl ws H) (hD : va_D A ws) (hS : va_S A s.heap H locs) (hA : ∀ q, s.heap.size ≤ q → A q) (hM : CtV l y bytes maxL ret rm G As w0 post w1) (km : KmS y bytes maxL ret As.length) (hl : Cond.methodLink own index y ∈ tb) (hR : rm.frames + 1 ≤ R.frames ∧ 8 + (maxL + 11) + rm.locals ≤ R.locals) (isC isR : List Nat) (hCn : va_nd isC = true) (hC : isC.map (fun i => ws[i]?) = w0.map some) (hRr : isR.map (fun i => ws[i]?) = wr.map some) (hRn : va_nd isR = true) (hdis : ∀ i ∈ isR, i ∉ isC) (hsz : ls.size = nL) (hst : st = As.reverse ++ rest) (hW : (rest.map fun v => v.category).sum ≤ 8) (hdg : decode cc pc = .ok (.invokestatic index, 3)) (hf : cells + rm.cells ≤ R.cells ∧ slots + rm.slots ≤ R.slots) (hk : cells + rm.cells = k1) (hs : slots + rm.slots = s1)
    (kk : ∀ (u : S) (H1 : Heap) (locs1 : List Loc), post u → va_P G.1 vwCl (wr ++ w1 u) H1 → va_D A (wr ++ w1 u) → va_S A s.heap H1 locs1 → W p l e R s m args below meth c H1 locs1 k1 s1 Q (F0 m (pc + 3) ls rest)) : W p l e R s m args below meth c H locs cells slots Q (F0 m pc ls st) := by
  subst hk; subst hs
  have hPc := hP.sub (ws' := w0) isC (fm_of hC)
  have hDc := hD.sub (ws' := w0) isC hCn hC
  have hFc := va_free (wc := w0) hD hS hA isC hC
  have cw : CallB R s args own index y bytes maxL ret (wsU y bytes maxL ret) rm rm.cells rm.slots As.length ∧ (Cond.static y).before args s = true := ⟨callB_of As.length F.2.2.2.2 (tb_in km.1) rfl rfl rfl (F.2.2.2.2 _ km.2.1) (F.2.2.2.2 _ hl) km.2.2.2 hR, F.2.2.2.2 _ km.2.2.1⟩
  refine va_callv (va_runS (As := As) (rest := rest) F (hM H.size) cw ⟨blindX, fun U hU hW => ⟨rfl, by rw [hU], by rw [hU]; exact hPc, KX.warm hW hK, hDc.weaken (fun _ _ _ _ => trivial)⟩⟩ rfl rfl hsz hst (lv_room hW) hdg hf) hS (fun q _ h => hFc q h) hFc ?_
  intro u t H1 locs1 ht hvm hw hB hz1 hk1 hS1
  have hP1 := hB.1
  rw [ht] at hP1
  obtain ⟨hP2, hD2⟩ := va_join (wr := wr) (w1 := w1 u) hP hD isC isR hC hRr hRn hdis hk1 hFc hP1 hB.2
  exact kk u H1 locs1 hw hP2 hD2 hS1
theorem civ {post : S → Prop} (F : CallFix p m c cc nL s args tb own) (hK : KX G s) (hP : va_P G.1 vwCl ws H) (hD : va_D A ws) (hS : va_S A s.heap H locs) (hA : ∀ q, s.heap.size ≤ q → A q) (hM : CtV l y bytes maxL none rm G (.ref b :: As) w0 post w1) (km : KmI y bytes maxL As.length) (hl : Cond.methodLink own index y ∈ tb) (hR : rm.frames + 1 ≤ R.frames ∧ 8 + (maxL + 11) + rm.locals ≤ R.locals) (isC isR : List Nat) (hCn : va_nd isC = true) (hC : isC.map (fun i => ws[i]?) = w0.map some) (hRr : isR.map (fun i => ws[i]?) = wr.map some) (hRn : va_nd isR = true) (hdis : ∀ i ∈ isR, i ∉ isC) (hsz : ls.size = nL) (hst : st = As.reverse ++ .ref b :: rest) (hW : (rest.map fun v => v.category).sum ≤ 8) (hdg : decode cc pc = .ok (.invokespecial index, 3)) (hf : cells + rm.cells ≤ R.cells ∧ slots + rm.slots ≤ R.slots) (hk : cells + rm.cells = k1) (hs : slots + rm.slots = s1)
    (kk : ∀ (u : S) (H1 : Heap) (locs1 : List Loc), post u → va_P G.1 vwCl (wr ++ w1 u) H1 → va_D A (wr ++ w1 u) → va_S A s.heap H1 locs1 → W p l e R s m args below meth c H1 locs1 k1 s1 Q (F0 m (pc + 3) ls rest)) : W p l e R s m args below meth c H locs cells slots Q (F0 m pc ls st) := by
  subst hk; subst hs
  have hPc := hP.sub (ws' := w0) isC (fm_of hC)
  have hDc := hD.sub (ws' := w0) isC hCn hC
  have hFc := va_free (wc := w0) hD hS hA isC hC
  have cw : CallB R s args own index y bytes maxL none (wsU y bytes maxL none) rm rm.cells rm.slots As.length ∧ y.name = "<init>" ∧ (Cond.instanceMethod y).before args s = true := ⟨callB_of As.length F.2.2.2.2 (tb_in km.1) rfl rfl rfl (F.2.2.2.2 _ km.2.1) (F.2.2.2.2 _ hl) km.2.2.2.2 hR, km.2.2.2.1, F.2.2.2.2 _ km.2.2.1⟩
  refine va_callv (va_runI (As := As) (rest := rest) F (hM H.size) cw ⟨blindX, fun U hU hW => ⟨rfl, by rw [hU], by rw [hU]; exact hPc, KX.warm hW hK, hDc.weaken (fun _ _ _ _ => trivial)⟩⟩ rfl rfl hsz hst (lv_room hW) hdg hf) hS (fun q _ h => hFc q h) hFc ?_
  intro u t H1 locs1 ht hvm hw hB hz1 hk1 hS1
  have hP1 := hB.1
  rw [ht] at hP1
  obtain ⟨hP2, hD2⟩ := va_join (wr := wr) (w1 := w1 u) hP hD isC isR hC hRr hRn hdis hk1 hFc hP1 hB.2
  exact kk u H1 locs1 hw hP2 hD2 hS1
theorem cnv {post : S → Prop} (F : CallFix p m c cc nL s args tb own) (hK : KX G s) (hP : va_P G.1 vwCl ws H) (hD : va_D A ws) (hS : va_S A s.heap H locs) (hA : ∀ q, s.heap.size ≤ q → A q) (hM : CtV l y bytes maxL none rm G (.ref b :: As) w0 post w1) (km : KmI y bytes maxL As.length) (host : String) (hl : (own, index, y, host) ∈ nst) (hR : rm.frames + 1 ≤ R.frames ∧ 8 + (maxL + 11) + rm.locals ≤ R.locals) (isC isR : List Nat) (hCn : va_nd isC = true) (hC : isC.map (fun i => ws[i]?) = w0.map some) (hRr : isR.map (fun i => ws[i]?) = wr.map some) (hRn : va_nd isR = true) (hdis : ∀ i ∈ isR, i ∉ isC) (hsz : ls.size = nL) (hst : st = As.reverse ++ .ref b :: rest) (hW : (rest.map fun v => v.category).sum ≤ 8) (hdg : decode cc pc = .ok (.invokespecial index, 3)) (hf : cells + rm.cells ≤ R.cells ∧ slots + rm.slots ≤ R.slots) (hk : cells + rm.cells = k1) (hs : slots + rm.slots = s1)
    (kk : ∀ (u : S) (H1 : Heap) (locs1 : List Loc), post u → va_P G.1 vwCl (wr ++ w1 u) H1 → va_D A (wr ++ w1 u) → va_S A s.heap H1 locs1 → W p l e R s m args below meth c H1 locs1 k1 s1 Q (F0 m (pc + 3) ls rest)) : W p l e R s m args below meth c H locs cells slots Q (F0 m pc ls st) := by
  subst hk; subst hs
  have hPc := hP.sub (ws' := w0) isC (fm_of hC)
  have hDc := hD.sub (ws' := w0) isC hCn hC
  have hFc := va_free (wc := w0) hD hS hA isC hC
  have cw : va_CN R s args own index y host bytes maxL none (wsU y bytes maxL none) rm rm.cells rm.slots As.length ∧ y.name = "<init>" ∧ (Cond.instanceMethod y).before args s = true := ⟨va_cnB As.length F.2.2.2.2 (tb_in km.1) rfl rfl rfl (hK.2 _ hl) (F.2.2.2.2 _ km.2.1) km.2.2.2.2 hR, km.2.2.2.1, F.2.2.2.2 _ km.2.2.1⟩
  refine va_callv (va_runIN (As := As) (rest := rest) F (hM H.size) cw ⟨blindX, fun U hU hW => ⟨rfl, by rw [hU], by rw [hU]; exact hPc, KX.warm hW hK, hDc.weaken (fun _ _ _ _ => trivial)⟩⟩ rfl rfl hsz hst (lv_room hW) hdg hf) hS (fun q _ h => hFc q h) hFc ?_
  intro u t H1 locs1 ht hvm hw hB hz1 hk1 hS1
  have hP1 := hB.1
  rw [ht] at hP1
  obtain ⟨hP2, hD2⟩ := va_join (wr := wr) (w1 := w1 u) hP hD isC isR hC hRr hRn hdis hk1 hFc hP1 hB.2
  exact kk u H1 locs1 hw hP2 hD2 hS1
end
end
section
def isB (a b : Int32) : Int32 := if a < 0 then 0 else if b ≤ a then 0 else 1
def isP (a : Int32) : Int32 := if a < 0 then 0 else if 100 < a then 0 else 1
theorem tlt (a b : Int32) : a < b ↔ a.toInt < b.toInt := Int32.lt_iff_toInt_lt
theorem tle (a b : Int32) : a ≤ b ↔ a.toInt ≤ b.toInt := Int32.le_iff_toInt_le
theorem isB_0 (a : Int32) : isB a 0 = 0 := by
  unfold isB
  split
  · rfl
  · rename_i h
    rw [if_pos]
    rw [tlt] at h
    rw [tle]
    omega
theorem nar_isB (a b : Int32) : narrow .boolean (.int (isB a b)) = .int (isB a b) := by
  unfold isB
  split
  · rfl
  · split <;> rfl
theorem nar_isP (a : Int32) : narrow .boolean (.int (isP a)) = .int (isP a) := by
  unfold isP
  split
  · rfl
  · split <;> rfl
theorem isB_in {d b : Int32} {n : Nat} (h : ¬ isB d b = 0) (hb : b.toInt = (n : Int)) : vp_in d n := by
  rw [vp_in_iff]
  unfold isB at h
  split at h
  · exact absurd rfl h
  · split at h
    · exact absurd rfl h
    · rename_i h1 h2
      rw [tlt] at h1
      rw [tle] at h2
      have h0 : (0 : Int32).toInt = 0 := rfl
      omega
def fFault (a : Int32) : Int32 := if a = 0 then 0 else -1
def fHas (a : Int32) : Int32 := if a = 0 then 0 else if a = 1 then 0 else if a = 2 then 0 else if a = 3 then 0 else if a = 4 then 0 else if a = 5 then 0 else if a = 6 then 0 else if a = 7 then 50 else if a = 8 then 0 else -1
def fDay (a b : Int32) : Int32 := if isB a 5 = 0 then -1 else if b = 0 then 0 else if b = 1 then 0 else if b = 2 then 0 else -1
def fJudge (a : Int32) : Int32 := if a = 0 then 0 else -1
def fShould (a : Int32) : Int32 := if a = 0 then -1 else if a = 1 then 0 else if a = 2 then 0 else -1
def fStatus (a : Int32) : Int32 := if isB a 6 = 0 then -1 else 0
def fEnd (a : Int32) : Int32 := if a < 0 then 0 else if a ≤ 0 then 1 else 0
def fSeed (a : Int32) : Int32 := if a < 0 then 0 else 1
def fNever (a : Int32) : Int32 := if a < 1 then -1 else if 9 < a then -1 else 0
def fFit (a b : Int32) : Int32 := if isB a 5 = 0 then -1000000000 else if b < 0 then -1000000000 else if 2 < b then -1000000000 else 0
def fDraw (a : Int32) : Int32 := if isB a 5 = 0 then -1 else 0
end
