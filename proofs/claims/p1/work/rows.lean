section
-- ===== PART A: goes FIRST, ahead of the names: the tables' words, and 'selects' of the private methods out of them =====
/-- a private method of a class that the tables say can be made, by its rows of tables_1 -/
def lw_okq (q : MethodName × Nat) : Prop := (q.1.cls ≠ "java/lang/invoke/MethodHandle" ∧ q.1.cls ≠ "java/lang/invoke/VarHandle") ∧ Cond.instantiable q.1.cls q.2 ∈ tables_1 ∧ Cond.privateMethod q.1 ∈ tables_1 ∧ Cond.instanceMethod q.1 ∈ tables_1
theorem lw_p0 : lw_okq (⟨"DeskDays$Reader", "listOwnWords", "()V"⟩, 10) := ⟨⟨by decide +kernel, by decide +kernel⟩, List.mem_of_getElem? (i := 291) (by decide +kernel), List.mem_of_getElem? (i := 297) (by decide +kernel), List.mem_of_getElem? (i := 298) (by decide +kernel)⟩
theorem lw_p1 : lw_okq (⟨"DeskDays", "refuse", "(I)I"⟩, 14) := ⟨⟨by decide +kernel, by decide +kernel⟩, List.mem_of_getElem? (i := 23) (by decide +kernel), List.mem_of_getElem? (i := 562) (by decide +kernel), List.mem_of_getElem? (i := 563) (by decide +kernel)⟩
theorem lw_p2 : lw_okq (⟨"DeskDays", "addBytes", "(I)V"⟩, 14) := ⟨⟨by decide +kernel, by decide +kernel⟩, List.mem_of_getElem? (i := 23) (by decide +kernel), List.mem_of_getElem? (i := 566) (by decide +kernel), List.mem_of_getElem? (i := 567) (by decide +kernel)⟩
theorem lw_p3 : lw_okq (⟨"DeskDays$Reader", "failAt", "(II)V"⟩, 10) := ⟨⟨by decide +kernel, by decide +kernel⟩, List.mem_of_getElem? (i := 291) (by decide +kernel), List.mem_of_getElem? (i := 625) (by decide +kernel), List.mem_of_getElem? (i := 626) (by decide +kernel)⟩
theorem lw_p4 : lw_okq (⟨"DeskDays$Reader", "takeLetters", "()V"⟩, 10) := ⟨⟨by decide +kernel, by decide +kernel⟩, List.mem_of_getElem? (i := 291) (by decide +kernel), List.mem_of_getElem? (i := 629) (by decide +kernel), List.mem_of_getElem? (i := 630) (by decide +kernel)⟩
theorem lw_p5 : lw_okq (⟨"DeskDays$Reader", "takeDigits", "()V"⟩, 10) := ⟨⟨by decide +kernel, by decide +kernel⟩, List.mem_of_getElem? (i := 291) (by decide +kernel), List.mem_of_getElem? (i := 633) (by decide +kernel), List.mem_of_getElem? (i := 634) (by decide +kernel)⟩
theorem lw_p6 : lw_okq (⟨"DeskDays$Statements", "readFloor", "()V"⟩, 4) := ⟨⟨by decide +kernel, by decide +kernel⟩, List.mem_of_getElem? (i := 289) (by decide +kernel), List.mem_of_getElem? (i := 645) (by decide +kernel), List.mem_of_getElem? (i := 646) (by decide +kernel)⟩
theorem lw_p7 : lw_okq (⟨"DeskDays$Statements", "beginOneOf", "(II)V"⟩, 4) := ⟨⟨by decide +kernel, by decide +kernel⟩, List.mem_of_getElem? (i := 289) (by decide +kernel), List.mem_of_getElem? (i := 649) (by decide +kernel), List.mem_of_getElem? (i := 650) (by decide +kernel)⟩
theorem lw_p8 : lw_okq (⟨"DeskDays$Statements", "takeNewName", "()I"⟩, 4) := ⟨⟨by decide +kernel, by decide +kernel⟩, List.mem_of_getElem? (i := 289) (by decide +kernel), List.mem_of_getElem? (i := 655) (by decide +kernel), List.mem_of_getElem? (i := 656) (by decide +kernel)⟩
theorem lw_p9 : lw_okq (⟨"DeskDays$Statements", "takeNumber", "(I)I"⟩, 4) := ⟨⟨by decide +kernel, by decide +kernel⟩, List.mem_of_getElem? (i := 289) (by decide +kernel), List.mem_of_getElem? (i := 686) (by decide +kernel), List.mem_of_getElem? (i := 687) (by decide +kernel)⟩
theorem lw_p10 : lw_okq (⟨"DeskDays$Statements", "readTeam", "()V"⟩, 4) := ⟨⟨by decide +kernel, by decide +kernel⟩, List.mem_of_getElem? (i := 289) (by decide +kernel), List.mem_of_getElem? (i := 699) (by decide +kernel), List.mem_of_getElem? (i := 700) (by decide +kernel)⟩
theorem lw_p11 : lw_okq (⟨"DeskDays$Statements", "readPerson", "()V"⟩, 4) := ⟨⟨by decide +kernel, by decide +kernel⟩, List.mem_of_getElem? (i := 289) (by decide +kernel), List.mem_of_getElem? (i := 707) (by decide +kernel), List.mem_of_getElem? (i := 708) (by decide +kernel)⟩
theorem lw_p12 : lw_okq (⟨"DeskDays$Statements", "takeTeam", "()I"⟩, 4) := ⟨⟨by decide +kernel, by decide +kernel⟩, List.mem_of_getElem? (i := 289) (by decide +kernel), List.mem_of_getElem? (i := 711) (by decide +kernel), List.mem_of_getElem? (i := 712) (by decide +kernel)⟩
theorem lw_p13 : lw_okq (⟨"DeskDays$Statements", "askName", "(I)I"⟩, 4) := ⟨⟨by decide +kernel, by decide +kernel⟩, List.mem_of_getElem? (i := 289) (by decide +kernel), List.mem_of_getElem? (i := 716) (by decide +kernel), List.mem_of_getElem? (i := 717) (by decide +kernel)⟩
theorem lw_p14 : lw_okq (⟨"DeskDays$Statements", "readCannot", "()V"⟩, 4) := ⟨⟨by decide +kernel, by decide +kernel⟩, List.mem_of_getElem? (i := 289) (by decide +kernel), List.mem_of_getElem? (i := 724) (by decide +kernel), List.mem_of_getElem? (i := 725) (by decide +kernel)⟩
theorem lw_p15 : lw_okq (⟨"DeskDays$Statements", "takePerson", "()I"⟩, 4) := ⟨⟨by decide +kernel, by decide +kernel⟩, List.mem_of_getElem? (i := 289) (by decide +kernel), List.mem_of_getElem? (i := 728) (by decide +kernel), List.mem_of_getElem? (i := 729) (by decide +kernel)⟩
def lw_privs_1 : List (MethodName × Nat) := [(⟨"DeskDays$Reader", "listOwnWords", "()V"⟩, 10), (⟨"DeskDays", "refuse", "(I)I"⟩, 14), (⟨"DeskDays", "addBytes", "(I)V"⟩, 14), (⟨"DeskDays$Reader", "failAt", "(II)V"⟩, 10), (⟨"DeskDays$Reader", "takeLetters", "()V"⟩, 10), (⟨"DeskDays$Reader", "takeDigits", "()V"⟩, 10), (⟨"DeskDays$Statements", "readFloor", "()V"⟩, 4), (⟨"DeskDays$Statements", "beginOneOf", "(II)V"⟩, 4), (⟨"DeskDays$Statements", "takeNewName", "()I"⟩, 4), (⟨"DeskDays$Statements", "takeNumber", "(I)I"⟩, 4), (⟨"DeskDays$Statements", "readTeam", "()V"⟩, 4), (⟨"DeskDays$Statements", "readPerson", "()V"⟩, 4), (⟨"DeskDays$Statements", "takeTeam", "()I"⟩, 4), (⟨"DeskDays$Statements", "askName", "(I)I"⟩, 4), (⟨"DeskDays$Statements", "readCannot", "()V"⟩, 4), (⟨"DeskDays$Statements", "takePerson", "()I"⟩, 4)]
theorem lw_r1 : ∀ q ∈ lw_privs_1, lw_okq q := List.forall_mem_cons.mpr ⟨lw_p0, List.forall_mem_cons.mpr ⟨lw_p1, List.forall_mem_cons.mpr ⟨lw_p2, List.forall_mem_cons.mpr ⟨lw_p3, List.forall_mem_cons.mpr ⟨lw_p4, List.forall_mem_cons.mpr ⟨lw_p5, List.forall_mem_cons.mpr ⟨lw_p6, List.forall_mem_cons.mpr ⟨lw_p7, List.forall_mem_cons.mpr ⟨lw_p8, List.forall_mem_cons.mpr ⟨lw_p9, List.forall_mem_cons.mpr ⟨lw_p10, List.forall_mem_cons.mpr ⟨lw_p11, List.forall_mem_cons.mpr ⟨lw_p12, List.forall_mem_cons.mpr ⟨lw_p13, List.forall_mem_cons.mpr ⟨lw_p14, List.forall_mem_cons.mpr ⟨lw_p15, fun _ h => absurd h List.not_mem_nil⟩⟩⟩⟩⟩⟩⟩⟩⟩⟩⟩⟩⟩⟩⟩⟩
theorem lw_p16 : lw_okq (⟨"DeskDays$Statements", "askPerson", "()I"⟩, 4) := ⟨⟨by decide +kernel, by decide +kernel⟩, List.mem_of_getElem? (i := 289) (by decide +kernel), List.mem_of_getElem? (i := 732) (by decide +kernel), List.mem_of_getElem? (i := 733) (by decide +kernel)⟩
theorem lw_p17 : lw_okq (⟨"DeskDays$Statements", "takeDay", "()I"⟩, 4) := ⟨⟨by decide +kernel, by decide +kernel⟩, List.mem_of_getElem? (i := 289) (by decide +kernel), List.mem_of_getElem? (i := 737) (by decide +kernel), List.mem_of_getElem? (i := 738) (by decide +kernel)⟩
theorem lw_p18 : lw_okq (⟨"DeskDays$Statements", "readLikes", "()V"⟩, 4) := ⟨⟨by decide +kernel, by decide +kernel⟩, List.mem_of_getElem? (i := 289) (by decide +kernel), List.mem_of_getElem? (i := 747) (by decide +kernel), List.mem_of_getElem? (i := 748) (by decide +kernel)⟩
theorem lw_p19 : lw_okq (⟨"DeskDays$Statements", "readTie", "()V"⟩, 4) := ⟨⟨by decide +kernel, by decide +kernel⟩, List.mem_of_getElem? (i := 289) (by decide +kernel), List.mem_of_getElem? (i := 751) (by decide +kernel), List.mem_of_getElem? (i := 752) (by decide +kernel)⟩
theorem lw_p20 : lw_okq (⟨"DeskDays$Statements", "readComes", "()V"⟩, 4) := ⟨⟨by decide +kernel, by decide +kernel⟩, List.mem_of_getElem? (i := 289) (by decide +kernel), List.mem_of_getElem? (i := 759) (by decide +kernel), List.mem_of_getElem? (i := 760) (by decide +kernel)⟩
theorem lw_p21 : lw_okq (⟨"DeskDays$Statements", "readVisit", "()V"⟩, 4) := ⟨⟨by decide +kernel, by decide +kernel⟩, List.mem_of_getElem? (i := 289) (by decide +kernel), List.mem_of_getElem? (i := 763) (by decide +kernel), List.mem_of_getElem? (i := 764) (by decide +kernel)⟩
theorem lw_p22 : lw_okq (⟨"DeskDays$Statements", "readOwn", "()V"⟩, 4) := ⟨⟨by decide +kernel, by decide +kernel⟩, List.mem_of_getElem? (i := 289) (by decide +kernel), List.mem_of_getElem? (i := 767) (by decide +kernel), List.mem_of_getElem? (i := 768) (by decide +kernel)⟩
theorem lw_p23 : lw_okq (⟨"DeskDays$Statements", "readMeet", "()V"⟩, 4) := ⟨⟨by decide +kernel, by decide +kernel⟩, List.mem_of_getElem? (i := 289) (by decide +kernel), List.mem_of_getElem? (i := 772) (by decide +kernel), List.mem_of_getElem? (i := 773) (by decide +kernel)⟩
theorem lw_p24 : lw_okq (⟨"DeskDays$Statements", "readTurns", "()V"⟩, 4) := ⟨⟨by decide +kernel, by decide +kernel⟩, List.mem_of_getElem? (i := 289) (by decide +kernel), List.mem_of_getElem? (i := 776) (by decide +kernel), List.mem_of_getElem? (i := 777) (by decide +kernel)⟩
theorem lw_p25 : lw_okq (⟨"DeskDays$Statements", "readStand", "()V"⟩, 4) := ⟨⟨by decide +kernel, by decide +kernel⟩, List.mem_of_getElem? (i := 289) (by decide +kernel), List.mem_of_getElem? (i := 780) (by decide +kernel), List.mem_of_getElem? (i := 781) (by decide +kernel)⟩
theorem lw_p26 : lw_okq (⟨"DeskDays$RuleReader", "readSum", "(I)V"⟩, 2) := ⟨⟨by decide +kernel, by decide +kernel⟩, List.mem_of_getElem? (i := 395) (by decide +kernel), List.mem_of_getElem? (i := 792) (by decide +kernel), List.mem_of_getElem? (i := 793) (by decide +kernel)⟩
theorem lw_p27 : lw_okq (⟨"DeskDays$RuleReader", "readProduct", "(I)V"⟩, 2) := ⟨⟨by decide +kernel, by decide +kernel⟩, List.mem_of_getElem? (i := 395) (by decide +kernel), List.mem_of_getElem? (i := 796) (by decide +kernel), List.mem_of_getElem? (i := 797) (by decide +kernel)⟩
theorem lw_p28 : lw_okq (⟨"DeskDays$RuleReader", "readPart", "(I)V"⟩, 2) := ⟨⟨by decide +kernel, by decide +kernel⟩, List.mem_of_getElem? (i := 395) (by decide +kernel), List.mem_of_getElem? (i := 800) (by decide +kernel), List.mem_of_getElem? (i := 801) (by decide +kernel)⟩
theorem lw_p29 : lw_okq (⟨"DeskDays$RuleReader", "addTaken", "(II)V"⟩, 2) := ⟨⟨by decide +kernel, by decide +kernel⟩, List.mem_of_getElem? (i := 395) (by decide +kernel), List.mem_of_getElem? (i := 805) (by decide +kernel), List.mem_of_getElem? (i := 806) (by decide +kernel)⟩
theorem lw_p30 : lw_okq (⟨"DeskDays$RuleReader", "readPair", "(II)V"⟩, 2) := ⟨⟨by decide +kernel, by decide +kernel⟩, List.mem_of_getElem? (i := 395) (by decide +kernel), List.mem_of_getElem? (i := 814) (by decide +kernel), List.mem_of_getElem? (i := 815) (by decide +kernel)⟩
theorem lw_p31 : lw_okq (⟨"DeskDays$RuleReader", "takeOpening", "(II)Z"⟩, 2) := ⟨⟨by decide +kernel, by decide +kernel⟩, List.mem_of_getElem? (i := 395) (by decide +kernel), List.mem_of_getElem? (i := 818) (by decide +kernel), List.mem_of_getElem? (i := 819) (by decide +kernel)⟩
def lw_privs_2 : List (MethodName × Nat) := [(⟨"DeskDays$Statements", "askPerson", "()I"⟩, 4), (⟨"DeskDays$Statements", "takeDay", "()I"⟩, 4), (⟨"DeskDays$Statements", "readLikes", "()V"⟩, 4), (⟨"DeskDays$Statements", "readTie", "()V"⟩, 4), (⟨"DeskDays$Statements", "readComes", "()V"⟩, 4), (⟨"DeskDays$Statements", "readVisit", "()V"⟩, 4), (⟨"DeskDays$Statements", "readOwn", "()V"⟩, 4), (⟨"DeskDays$Statements", "readMeet", "()V"⟩, 4), (⟨"DeskDays$Statements", "readTurns", "()V"⟩, 4), (⟨"DeskDays$Statements", "readStand", "()V"⟩, 4), (⟨"DeskDays$RuleReader", "readSum", "(I)V"⟩, 2), (⟨"DeskDays$RuleReader", "readProduct", "(I)V"⟩, 2), (⟨"DeskDays$RuleReader", "readPart", "(I)V"⟩, 2), (⟨"DeskDays$RuleReader", "addTaken", "(II)V"⟩, 2), (⟨"DeskDays$RuleReader", "readPair", "(II)V"⟩, 2), (⟨"DeskDays$RuleReader", "takeOpening", "(II)Z"⟩, 2)]
theorem lw_r2 : ∀ q ∈ lw_privs_2, lw_okq q := List.forall_mem_cons.mpr ⟨lw_p16, List.forall_mem_cons.mpr ⟨lw_p17, List.forall_mem_cons.mpr ⟨lw_p18, List.forall_mem_cons.mpr ⟨lw_p19, List.forall_mem_cons.mpr ⟨lw_p20, List.forall_mem_cons.mpr ⟨lw_p21, List.forall_mem_cons.mpr ⟨lw_p22, List.forall_mem_cons.mpr ⟨lw_p23, List.forall_mem_cons.mpr ⟨lw_p24, List.forall_mem_cons.mpr ⟨lw_p25, List.forall_mem_cons.mpr ⟨lw_p26, List.forall_mem_cons.mpr ⟨lw_p27, List.forall_mem_cons.mpr ⟨lw_p28, List.forall_mem_cons.mpr ⟨lw_p29, List.forall_mem_cons.mpr ⟨lw_p30, List.forall_mem_cons.mpr ⟨lw_p31, fun _ h => absurd h List.not_mem_nil⟩⟩⟩⟩⟩⟩⟩⟩⟩⟩⟩⟩⟩⟩⟩⟩
theorem lw_p32 : lw_okq (⟨"DeskDays$RuleReader", "productKind", "()I"⟩, 2) := ⟨⟨by decide +kernel, by decide +kernel⟩, List.mem_of_getElem? (i := 395) (by decide +kernel), List.mem_of_getElem? (i := 833) (by decide +kernel), List.mem_of_getElem? (i := 834) (by decide +kernel)⟩
theorem lw_p33 : lw_okq (⟨"DeskDays$RuleReader", "readTest", "(I)V"⟩, 2) := ⟨⟨by decide +kernel, by decide +kernel⟩, List.mem_of_getElem? (i := 395) (by decide +kernel), List.mem_of_getElem? (i := 842) (by decide +kernel), List.mem_of_getElem? (i := 843) (by decide +kernel)⟩
theorem lw_p34 : lw_okq (⟨"DeskDays$RuleReader", "readBoth", "(I)V"⟩, 2) := ⟨⟨by decide +kernel, by decide +kernel⟩, List.mem_of_getElem? (i := 395) (by decide +kernel), List.mem_of_getElem? (i := 846) (by decide +kernel), List.mem_of_getElem? (i := 847) (by decide +kernel)⟩
theorem lw_p35 : lw_okq (⟨"DeskDays$RuleReader", "readFact", "(I)V"⟩, 2) := ⟨⟨by decide +kernel, by decide +kernel⟩, List.mem_of_getElem? (i := 395) (by decide +kernel), List.mem_of_getElem? (i := 850) (by decide +kernel), List.mem_of_getElem? (i := 851) (by decide +kernel)⟩
theorem lw_p36 : lw_okq (⟨"DeskDays$RuleReader", "takeComparison", "()I"⟩, 2) := ⟨⟨by decide +kernel, by decide +kernel⟩, List.mem_of_getElem? (i := 395) (by decide +kernel), List.mem_of_getElem? (i := 854) (by decide +kernel), List.mem_of_getElem? (i := 855) (by decide +kernel)⟩
theorem lw_p37 : lw_okq (⟨"DeskDays", "isPerson", "(I)Z"⟩, 14) := ⟨⟨by decide +kernel, by decide +kernel⟩, List.mem_of_getElem? (i := 23) (by decide +kernel), List.mem_of_getElem? (i := 908) (by decide +kernel), List.mem_of_getElem? (i := 909) (by decide +kernel)⟩
theorem lw_p38 : lw_okq (⟨"DeskDays", "areSets", "(I)Z"⟩, 14) := ⟨⟨by decide +kernel, by decide +kernel⟩, List.mem_of_getElem? (i := 23) (by decide +kernel), List.mem_of_getElem? (i := 924) (by decide +kernel), List.mem_of_getElem? (i := 925) (by decide +kernel)⟩
theorem lw_p39 : lw_okq (⟨"DeskDays", "takeSets", "(I)V"⟩, 14) := ⟨⟨by decide +kernel, by decide +kernel⟩, List.mem_of_getElem? (i := 23) (by decide +kernel), List.mem_of_getElem? (i := 928) (by decide +kernel), List.mem_of_getElem? (i := 929) (by decide +kernel)⟩
theorem lw_p40 : lw_okq (⟨"DeskDays$Plan", "findForbiddenDay", "()V"⟩, 6) := ⟨⟨by decide +kernel, by decide +kernel⟩, List.mem_of_getElem? (i := 423) (by decide +kernel), List.mem_of_getElem? (i := 967) (by decide +kernel), List.mem_of_getElem? (i := 968) (by decide +kernel)⟩
theorem lw_p41 : lw_okq (⟨"DeskDays$Plan", "findOtherNumber", "()V"⟩, 6) := ⟨⟨by decide +kernel, by decide +kernel⟩, List.mem_of_getElem? (i := 423) (by decide +kernel), List.mem_of_getElem? (i := 971) (by decide +kernel), List.mem_of_getElem? (i := 972) (by decide +kernel)⟩
theorem lw_p42 : lw_okq (⟨"DeskDays$Plan", "findStanding", "()V"⟩, 6) := ⟨⟨by decide +kernel, by decide +kernel⟩, List.mem_of_getElem? (i := 423) (by decide +kernel), List.mem_of_getElem? (i := 975) (by decide +kernel), List.mem_of_getElem? (i := 976) (by decide +kernel)⟩
theorem lw_p43 : lw_okq (⟨"DeskDays$Plan", "findTeamApart", "()V"⟩, 6) := ⟨⟨by decide +kernel, by decide +kernel⟩, List.mem_of_getElem? (i := 423) (by decide +kernel), List.mem_of_getElem? (i := 980) (by decide +kernel), List.mem_of_getElem? (i := 981) (by decide +kernel)⟩
theorem lw_p44 : lw_okq (⟨"DeskDays$Plan", "ruledSum", "(III)I"⟩, 6) := ⟨⟨by decide +kernel, by decide +kernel⟩, List.mem_of_getElem? (i := 423) (by decide +kernel), List.mem_of_getElem? (i := 1006) (by decide +kernel), List.mem_of_getElem? (i := 1007) (by decide +kernel)⟩
theorem lw_p45 : lw_okq (⟨"DeskDays$Rules", "run", "(II)I"⟩, 8) := ⟨⟨by decide +kernel, by decide +kernel⟩, List.mem_of_getElem? (i := 170) (by decide +kernel), List.mem_of_getElem? (i := 1014) (by decide +kernel), List.mem_of_getElem? (i := 1015) (by decide +kernel)⟩
theorem lw_p46 : lw_okq (⟨"DeskDays$Rules", "given", "(II)I"⟩, 8) := ⟨⟨by decide +kernel, by decide +kernel⟩, List.mem_of_getElem? (i := 170) (by decide +kernel), List.mem_of_getElem? (i := 1018) (by decide +kernel), List.mem_of_getElem? (i := 1019) (by decide +kernel)⟩
theorem lw_p47 : lw_okq (⟨"DeskDays$Seeker", "load", "(II)V"⟩, 5) := ⟨⟨by decide +kernel, by decide +kernel⟩, List.mem_of_getElem? (i := 461) (by decide +kernel), List.mem_of_getElem? (i := 1050) (by decide +kernel), List.mem_of_getElem? (i := 1051) (by decide +kernel)⟩
def lw_privs_3 : List (MethodName × Nat) := [(⟨"DeskDays$RuleReader", "productKind", "()I"⟩, 2), (⟨"DeskDays$RuleReader", "readTest", "(I)V"⟩, 2), (⟨"DeskDays$RuleReader", "readBoth", "(I)V"⟩, 2), (⟨"DeskDays$RuleReader", "readFact", "(I)V"⟩, 2), (⟨"DeskDays$RuleReader", "takeComparison", "()I"⟩, 2), (⟨"DeskDays", "isPerson", "(I)Z"⟩, 14), (⟨"DeskDays", "areSets", "(I)Z"⟩, 14), (⟨"DeskDays", "takeSets", "(I)V"⟩, 14), (⟨"DeskDays$Plan", "findForbiddenDay", "()V"⟩, 6), (⟨"DeskDays$Plan", "findOtherNumber", "()V"⟩, 6), (⟨"DeskDays$Plan", "findStanding", "()V"⟩, 6), (⟨"DeskDays$Plan", "findTeamApart", "()V"⟩, 6), (⟨"DeskDays$Plan", "ruledSum", "(III)I"⟩, 6), (⟨"DeskDays$Rules", "run", "(II)I"⟩, 8), (⟨"DeskDays$Rules", "given", "(II)I"⟩, 8), (⟨"DeskDays$Seeker", "load", "(II)V"⟩, 5)]
theorem lw_r3 : ∀ q ∈ lw_privs_3, lw_okq q := List.forall_mem_cons.mpr ⟨lw_p32, List.forall_mem_cons.mpr ⟨lw_p33, List.forall_mem_cons.mpr ⟨lw_p34, List.forall_mem_cons.mpr ⟨lw_p35, List.forall_mem_cons.mpr ⟨lw_p36, List.forall_mem_cons.mpr ⟨lw_p37, List.forall_mem_cons.mpr ⟨lw_p38, List.forall_mem_cons.mpr ⟨lw_p39, List.forall_mem_cons.mpr ⟨lw_p40, List.forall_mem_cons.mpr ⟨lw_p41, List.forall_mem_cons.mpr ⟨lw_p42, List.forall_mem_cons.mpr ⟨lw_p43, List.forall_mem_cons.mpr ⟨lw_p44, List.forall_mem_cons.mpr ⟨lw_p45, List.forall_mem_cons.mpr ⟨lw_p46, List.forall_mem_cons.mpr ⟨lw_p47, fun _ h => absurd h List.not_mem_nil⟩⟩⟩⟩⟩⟩⟩⟩⟩⟩⟩⟩⟩⟩⟩⟩
theorem lw_p48 : lw_okq (⟨"DeskDays$Seeker", "isFitting", "(II)Z"⟩, 5) := ⟨⟨by decide +kernel, by decide +kernel⟩, List.mem_of_getElem? (i := 461) (by decide +kernel), List.mem_of_getElem? (i := 1054) (by decide +kernel), List.mem_of_getElem? (i := 1055) (by decide +kernel)⟩
theorem lw_p49 : lw_okq (⟨"DeskDays", "areTwo", "(II)Z"⟩, 14) := ⟨⟨by decide +kernel, by decide +kernel⟩, List.mem_of_getElem? (i := 23) (by decide +kernel), List.mem_of_getElem? (i := 1099) (by decide +kernel), List.mem_of_getElem? (i := 1100) (by decide +kernel)⟩
theorem lw_p50 : lw_okq (⟨"DeskDays$Seeker", "exchange", "(II)V"⟩, 5) := ⟨⟨by decide +kernel, by decide +kernel⟩, List.mem_of_getElem? (i := 461) (by decide +kernel), List.mem_of_getElem? (i := 1116) (by decide +kernel), List.mem_of_getElem? (i := 1117) (by decide +kernel)⟩
theorem lw_p51 : lw_okq (⟨"DeskDays$Plan", "isLonely", "(I)Z"⟩, 6) := ⟨⟨by decide +kernel, by decide +kernel⟩, List.mem_of_getElem? (i := 423) (by decide +kernel), List.mem_of_getElem? (i := 1136) (by decide +kernel), List.mem_of_getElem? (i := 1137) (by decide +kernel)⟩
theorem lw_p52 : lw_okq (⟨"DeskDays$Chances", "begin", "()V"⟩, 2) := ⟨⟨by decide +kernel, by decide +kernel⟩, List.mem_of_getElem? (i := 501) (by decide +kernel), List.mem_of_getElem? (i := 1160) (by decide +kernel), List.mem_of_getElem? (i := 1161) (by decide +kernel)⟩
theorem lw_p53 : lw_okq (⟨"DeskDays$Chances", "admit", "(I)V"⟩, 2) := ⟨⟨by decide +kernel, by decide +kernel⟩, List.mem_of_getElem? (i := 501) (by decide +kernel), List.mem_of_getElem? (i := 1169) (by decide +kernel), List.mem_of_getElem? (i := 1170) (by decide +kernel)⟩
theorem lw_p54 : lw_okq (⟨"DeskDays", "drawComer", "(I)I"⟩, 14) := ⟨⟨by decide +kernel, by decide +kernel⟩, List.mem_of_getElem? (i := 23) (by decide +kernel), List.mem_of_getElem? (i := 1211) (by decide +kernel), List.mem_of_getElem? (i := 1212) (by decide +kernel)⟩
theorem lw_p55 : lw_okq (⟨"DeskDays$Plan", "goRound", "()Z"⟩, 6) := ⟨⟨by decide +kernel, by decide +kernel⟩, List.mem_of_getElem? (i := 423) (by decide +kernel), List.mem_of_getElem? (i := 1240) (by decide +kernel), List.mem_of_getElem? (i := 1241) (by decide +kernel)⟩
theorem lw_p56 : lw_okq (⟨"DeskDays$Plan", "choiceAlone", "(I)I"⟩, 6) := ⟨⟨by decide +kernel, by decide +kernel⟩, List.mem_of_getElem? (i := 423) (by decide +kernel), List.mem_of_getElem? (i := 1244) (by decide +kernel), List.mem_of_getElem? (i := 1245) (by decide +kernel)⟩
theorem lw_p57 : lw_okq (⟨"DeskDays$Seats", "settleBest", "(I)V"⟩, 3) := ⟨⟨by decide +kernel, by decide +kernel⟩, List.mem_of_getElem? (i := 484) (by decide +kernel), List.mem_of_getElem? (i := 1258) (by decide +kernel), List.mem_of_getElem? (i := 1259) (by decide +kernel)⟩
theorem lw_p58 : lw_okq (⟨"DeskDays$Seats", "tiesThere", "(II)I"⟩, 3) := ⟨⟨by decide +kernel, by decide +kernel⟩, List.mem_of_getElem? (i := 484) (by decide +kernel), List.mem_of_getElem? (i := 1262) (by decide +kernel), List.mem_of_getElem? (i := 1263) (by decide +kernel)⟩
theorem lw_p59 : lw_okq (⟨"DeskDays$Seats", "exchangeFirst", "()Z"⟩, 3) := ⟨⟨by decide +kernel, by decide +kernel⟩, List.mem_of_getElem? (i := 484) (by decide +kernel), List.mem_of_getElem? (i := 1270) (by decide +kernel), List.mem_of_getElem? (i := 1271) (by decide +kernel)⟩
theorem lw_p60 : lw_okq (⟨"DeskDays$Seats", "isMovable", "(I)Z"⟩, 3) := ⟨⟨by decide +kernel, by decide +kernel⟩, List.mem_of_getElem? (i := 484) (by decide +kernel), List.mem_of_getElem? (i := 1278) (by decide +kernel), List.mem_of_getElem? (i := 1279) (by decide +kernel)⟩
theorem lw_p61 : lw_okq (⟨"DeskDays$Seats", "exchange", "(II)V"⟩, 3) := ⟨⟨by decide +kernel, by decide +kernel⟩, List.mem_of_getElem? (i := 484) (by decide +kernel), List.mem_of_getElem? (i := 1282) (by decide +kernel), List.mem_of_getElem? (i := 1283) (by decide +kernel)⟩
theorem lw_p62 : lw_okq (⟨"DeskDays$Seats", "isOwnerIn", "(II)Z"⟩, 3) := ⟨⟨by decide +kernel, by decide +kernel⟩, List.mem_of_getElem? (i := 484) (by decide +kernel), List.mem_of_getElem? (i := 1300) (by decide +kernel), List.mem_of_getElem? (i := 1301) (by decide +kernel)⟩
theorem lw_p63 : lw_okq (⟨"DeskDays$Plan", "turnedSet", "(II)I"⟩, 6) := ⟨⟨by decide +kernel, by decide +kernel⟩, List.mem_of_getElem? (i := 423) (by decide +kernel), List.mem_of_getElem? (i := 1312) (by decide +kernel), List.mem_of_getElem? (i := 1313) (by decide +kernel)⟩
def lw_privs_4 : List (MethodName × Nat) := [(⟨"DeskDays$Seeker", "isFitting", "(II)Z"⟩, 5), (⟨"DeskDays", "areTwo", "(II)Z"⟩, 14), (⟨"DeskDays$Seeker", "exchange", "(II)V"⟩, 5), (⟨"DeskDays$Plan", "isLonely", "(I)Z"⟩, 6), (⟨"DeskDays$Chances", "begin", "()V"⟩, 2), (⟨"DeskDays$Chances", "admit", "(I)V"⟩, 2), (⟨"DeskDays", "drawComer", "(I)I"⟩, 14), (⟨"DeskDays$Plan", "goRound", "()Z"⟩, 6), (⟨"DeskDays$Plan", "choiceAlone", "(I)I"⟩, 6), (⟨"DeskDays$Seats", "settleBest", "(I)V"⟩, 3), (⟨"DeskDays$Seats", "tiesThere", "(II)I"⟩, 3), (⟨"DeskDays$Seats", "exchangeFirst", "()Z"⟩, 3), (⟨"DeskDays$Seats", "isMovable", "(I)Z"⟩, 3), (⟨"DeskDays$Seats", "exchange", "(II)V"⟩, 3), (⟨"DeskDays$Seats", "isOwnerIn", "(II)Z"⟩, 3), (⟨"DeskDays$Plan", "turnedSet", "(II)I"⟩, 6)]
theorem lw_r4 : ∀ q ∈ lw_privs_4, lw_okq q := List.forall_mem_cons.mpr ⟨lw_p48, List.forall_mem_cons.mpr ⟨lw_p49, List.forall_mem_cons.mpr ⟨lw_p50, List.forall_mem_cons.mpr ⟨lw_p51, List.forall_mem_cons.mpr ⟨lw_p52, List.forall_mem_cons.mpr ⟨lw_p53, List.forall_mem_cons.mpr ⟨lw_p54, List.forall_mem_cons.mpr ⟨lw_p55, List.forall_mem_cons.mpr ⟨lw_p56, List.forall_mem_cons.mpr ⟨lw_p57, List.forall_mem_cons.mpr ⟨lw_p58, List.forall_mem_cons.mpr ⟨lw_p59, List.forall_mem_cons.mpr ⟨lw_p60, List.forall_mem_cons.mpr ⟨lw_p61, List.forall_mem_cons.mpr ⟨lw_p62, List.forall_mem_cons.mpr ⟨lw_p63, fun _ h => absurd h List.not_mem_nil⟩⟩⟩⟩⟩⟩⟩⟩⟩⟩⟩⟩⟩⟩⟩⟩
theorem lw_p64 : lw_okq (⟨"DeskDays", "isImage", "()Z"⟩, 14) := ⟨⟨by decide +kernel, by decide +kernel⟩, List.mem_of_getElem? (i := 23) (by decide +kernel), List.mem_of_getElem? (i := 1351) (by decide +kernel), List.mem_of_getElem? (i := 1352) (by decide +kernel)⟩
theorem lw_p65 : lw_okq (⟨"DeskDaysModel", "refuses", "(I)I"⟩, 70) := ⟨⟨by decide +kernel, by decide +kernel⟩, List.mem_of_getElem? (i := 1359) (by decide +kernel), List.mem_of_getElem? (i := 1580) (by decide +kernel), List.mem_of_getElem? (i := 1581) (by decide +kernel)⟩
theorem lw_p66 : lw_okq (⟨"DeskDaysModel", "put", "(I)V"⟩, 70) := ⟨⟨by decide +kernel, by decide +kernel⟩, List.mem_of_getElem? (i := 1359) (by decide +kernel), List.mem_of_getElem? (i := 1584) (by decide +kernel), List.mem_of_getElem? (i := 1585) (by decide +kernel)⟩
theorem lw_p67 : lw_okq (⟨"DeskDaysModel", "ahead", "()V"⟩, 70) := ⟨⟨by decide +kernel, by decide +kernel⟩, List.mem_of_getElem? (i := 1359) (by decide +kernel), List.mem_of_getElem? (i := 1596) (by decide +kernel), List.mem_of_getElem? (i := 1597) (by decide +kernel)⟩
theorem lw_p68 : lw_okq (⟨"DeskDaysModel", "blame", "(II)V"⟩, 70) := ⟨⟨by decide +kernel, by decide +kernel⟩, List.mem_of_getElem? (i := 1359) (by decide +kernel), List.mem_of_getElem? (i := 1606) (by decide +kernel), List.mem_of_getElem? (i := 1607) (by decide +kernel)⟩
theorem lw_p69 : lw_okq (⟨"DeskDaysModel", "statement", "()V"⟩, 70) := ⟨⟨by decide +kernel, by decide +kernel⟩, List.mem_of_getElem? (i := 1359) (by decide +kernel), List.mem_of_getElem? (i := 1610) (by decide +kernel), List.mem_of_getElem? (i := 1611) (by decide +kernel)⟩
theorem lw_p70 : lw_okq (⟨"DeskDaysModel", "isWord", "(J)Z"⟩, 70) := ⟨⟨by decide +kernel, by decide +kernel⟩, List.mem_of_getElem? (i := 1359) (by decide +kernel), List.mem_of_getElem? (i := 1615) (by decide +kernel), List.mem_of_getElem? (i := 1616) (by decide +kernel)⟩
theorem lw_p71 : lw_okq (⟨"DeskDaysModel", "floor", "()V"⟩, 70) := ⟨⟨by decide +kernel, by decide +kernel⟩, List.mem_of_getElem? (i := 1359) (by decide +kernel), List.mem_of_getElem? (i := 1619) (by decide +kernel), List.mem_of_getElem? (i := 1620) (by decide +kernel)⟩
theorem lw_p72 : lw_okq (⟨"DeskDaysModel", "counts", "(Z)Z"⟩, 70) := ⟨⟨by decide +kernel, by decide +kernel⟩, List.mem_of_getElem? (i := 1359) (by decide +kernel), List.mem_of_getElem? (i := 1623) (by decide +kernel), List.mem_of_getElem? (i := 1624) (by decide +kernel)⟩
theorem lw_p73 : lw_okq (⟨"DeskDaysModel", "fresh", "()J"⟩, 70) := ⟨⟨by decide +kernel, by decide +kernel⟩, List.mem_of_getElem? (i := 1359) (by decide +kernel), List.mem_of_getElem? (i := 1627) (by decide +kernel), List.mem_of_getElem? (i := 1628) (by decide +kernel)⟩
theorem lw_p74 : lw_okq (⟨"DeskDaysModel", "isOwn", "(J)Z"⟩, 70) := ⟨⟨by decide +kernel, by decide +kernel⟩, List.mem_of_getElem? (i := 1359) (by decide +kernel), List.mem_of_getElem? (i := 1631) (by decide +kernel), List.mem_of_getElem? (i := 1632) (by decide +kernel)⟩
theorem lw_p75 : lw_okq (⟨"DeskDaysModel", "named", "(IJ)I"⟩, 70) := ⟨⟨by decide +kernel, by decide +kernel⟩, List.mem_of_getElem? (i := 1359) (by decide +kernel), List.mem_of_getElem? (i := 1667) (by decide +kernel), List.mem_of_getElem? (i := 1668) (by decide +kernel)⟩
theorem lw_p76 : lw_okq (⟨"DeskDaysModel", "must", "(J)V"⟩, 70) := ⟨⟨by decide +kernel, by decide +kernel⟩, List.mem_of_getElem? (i := 1359) (by decide +kernel), List.mem_of_getElem? (i := 1671) (by decide +kernel), List.mem_of_getElem? (i := 1672) (by decide +kernel)⟩
theorem lw_p77 : lw_okq (⟨"DeskDaysModel", "number", "(II)I"⟩, 70) := ⟨⟨by decide +kernel, by decide +kernel⟩, List.mem_of_getElem? (i := 1359) (by decide +kernel), List.mem_of_getElem? (i := 1675) (by decide +kernel), List.mem_of_getElem? (i := 1676) (by decide +kernel)⟩
theorem lw_p78 : lw_okq (⟨"DeskDaysModel", "team", "()V"⟩, 70) := ⟨⟨by decide +kernel, by decide +kernel⟩, List.mem_of_getElem? (i := 1359) (by decide +kernel), List.mem_of_getElem? (i := 1682) (by decide +kernel), List.mem_of_getElem? (i := 1683) (by decide +kernel)⟩
theorem lw_p79 : lw_okq (⟨"DeskDaysModel", "person", "()V"⟩, 70) := ⟨⟨by decide +kernel, by decide +kernel⟩, List.mem_of_getElem? (i := 1359) (by decide +kernel), List.mem_of_getElem? (i := 1686) (by decide +kernel), List.mem_of_getElem? (i := 1687) (by decide +kernel)⟩
def lw_privs_5 : List (MethodName × Nat) := [(⟨"DeskDays", "isImage", "()Z"⟩, 14), (⟨"DeskDaysModel", "refuses", "(I)I"⟩, 70), (⟨"DeskDaysModel", "put", "(I)V"⟩, 70), (⟨"DeskDaysModel", "ahead", "()V"⟩, 70), (⟨"DeskDaysModel", "blame", "(II)V"⟩, 70), (⟨"DeskDaysModel", "statement", "()V"⟩, 70), (⟨"DeskDaysModel", "isWord", "(J)Z"⟩, 70), (⟨"DeskDaysModel", "floor", "()V"⟩, 70), (⟨"DeskDaysModel", "counts", "(Z)Z"⟩, 70), (⟨"DeskDaysModel", "fresh", "()J"⟩, 70), (⟨"DeskDaysModel", "isOwn", "(J)Z"⟩, 70), (⟨"DeskDaysModel", "named", "(IJ)I"⟩, 70), (⟨"DeskDaysModel", "must", "(J)V"⟩, 70), (⟨"DeskDaysModel", "number", "(II)I"⟩, 70), (⟨"DeskDaysModel", "team", "()V"⟩, 70), (⟨"DeskDaysModel", "person", "()V"⟩, 70)]
theorem lw_r5 : ∀ q ∈ lw_privs_5, lw_okq q := List.forall_mem_cons.mpr ⟨lw_p64, List.forall_mem_cons.mpr ⟨lw_p65, List.forall_mem_cons.mpr ⟨lw_p66, List.forall_mem_cons.mpr ⟨lw_p67, List.forall_mem_cons.mpr ⟨lw_p68, List.forall_mem_cons.mpr ⟨lw_p69, List.forall_mem_cons.mpr ⟨lw_p70, List.forall_mem_cons.mpr ⟨lw_p71, List.forall_mem_cons.mpr ⟨lw_p72, List.forall_mem_cons.mpr ⟨lw_p73, List.forall_mem_cons.mpr ⟨lw_p74, List.forall_mem_cons.mpr ⟨lw_p75, List.forall_mem_cons.mpr ⟨lw_p76, List.forall_mem_cons.mpr ⟨lw_p77, List.forall_mem_cons.mpr ⟨lw_p78, List.forall_mem_cons.mpr ⟨lw_p79, fun _ h => absurd h List.not_mem_nil⟩⟩⟩⟩⟩⟩⟩⟩⟩⟩⟩⟩⟩⟩⟩⟩
theorem lw_p80 : lw_okq (⟨"DeskDaysModel", "asked", "(I)I"⟩, 70) := ⟨⟨by decide +kernel, by decide +kernel⟩, List.mem_of_getElem? (i := 1359) (by decide +kernel), List.mem_of_getElem? (i := 1690) (by decide +kernel), List.mem_of_getElem? (i := 1691) (by decide +kernel)⟩
theorem lw_p81 : lw_okq (⟨"DeskDaysModel", "cannots", "()V"⟩, 70) := ⟨⟨by decide +kernel, by decide +kernel⟩, List.mem_of_getElem? (i := 1359) (by decide +kernel), List.mem_of_getElem? (i := 1694) (by decide +kernel), List.mem_of_getElem? (i := 1695) (by decide +kernel)⟩
theorem lw_p82 : lw_okq (⟨"DeskDaysModel", "dayHere", "()I"⟩, 70) := ⟨⟨by decide +kernel, by decide +kernel⟩, List.mem_of_getElem? (i := 1359) (by decide +kernel), List.mem_of_getElem? (i := 1698) (by decide +kernel), List.mem_of_getElem? (i := 1699) (by decide +kernel)⟩
theorem lw_p83 : lw_okq (⟨"DeskDaysModel", "liking", "()V"⟩, 70) := ⟨⟨by decide +kernel, by decide +kernel⟩, List.mem_of_getElem? (i := 1359) (by decide +kernel), List.mem_of_getElem? (i := 1702) (by decide +kernel), List.mem_of_getElem? (i := 1703) (by decide +kernel)⟩
theorem lw_p84 : lw_okq (⟨"DeskDaysModel", "tie", "()V"⟩, 70) := ⟨⟨by decide +kernel, by decide +kernel⟩, List.mem_of_getElem? (i := 1359) (by decide +kernel), List.mem_of_getElem? (i := 1706) (by decide +kernel), List.mem_of_getElem? (i := 1707) (by decide +kernel)⟩
theorem lw_p85 : lw_okq (⟨"DeskDaysModel", "coming", "()V"⟩, 70) := ⟨⟨by decide +kernel, by decide +kernel⟩, List.mem_of_getElem? (i := 1359) (by decide +kernel), List.mem_of_getElem? (i := 1710) (by decide +kernel), List.mem_of_getElem? (i := 1711) (by decide +kernel)⟩
theorem lw_p86 : lw_okq (⟨"DeskDaysModel", "visit", "()V"⟩, 70) := ⟨⟨by decide +kernel, by decide +kernel⟩, List.mem_of_getElem? (i := 1359) (by decide +kernel), List.mem_of_getElem? (i := 1714) (by decide +kernel), List.mem_of_getElem? (i := 1715) (by decide +kernel)⟩
theorem lw_p87 : lw_okq (⟨"DeskDaysModel", "others", "()V"⟩, 70) := ⟨⟨by decide +kernel, by decide +kernel⟩, List.mem_of_getElem? (i := 1359) (by decide +kernel), List.mem_of_getElem? (i := 1718) (by decide +kernel), List.mem_of_getElem? (i := 1719) (by decide +kernel)⟩
theorem lw_p88 : lw_okq (⟨"DeskDaysModel", "owns", "()V"⟩, 70) := ⟨⟨by decide +kernel, by decide +kernel⟩, List.mem_of_getElem? (i := 1359) (by decide +kernel), List.mem_of_getElem? (i := 1722) (by decide +kernel), List.mem_of_getElem? (i := 1723) (by decide +kernel)⟩
theorem lw_p89 : lw_okq (⟨"DeskDaysModel", "ownedOn", "(II)I"⟩, 70) := ⟨⟨by decide +kernel, by decide +kernel⟩, List.mem_of_getElem? (i := 1359) (by decide +kernel), List.mem_of_getElem? (i := 1726) (by decide +kernel), List.mem_of_getElem? (i := 1727) (by decide +kernel)⟩
theorem lw_p90 : lw_okq (⟨"DeskDaysModel", "meeting", "()V"⟩, 70) := ⟨⟨by decide +kernel, by decide +kernel⟩, List.mem_of_getElem? (i := 1359) (by decide +kernel), List.mem_of_getElem? (i := 1730) (by decide +kernel), List.mem_of_getElem? (i := 1731) (by decide +kernel)⟩
theorem lw_p91 : lw_okq (⟨"DeskDaysModel", "turning", "()V"⟩, 70) := ⟨⟨by decide +kernel, by decide +kernel⟩, List.mem_of_getElem? (i := 1359) (by decide +kernel), List.mem_of_getElem? (i := 1734) (by decide +kernel), List.mem_of_getElem? (i := 1735) (by decide +kernel)⟩
theorem lw_p92 : lw_okq (⟨"DeskDaysModel", "standing", "()V"⟩, 70) := ⟨⟨by decide +kernel, by decide +kernel⟩, List.mem_of_getElem? (i := 1359) (by decide +kernel), List.mem_of_getElem? (i := 1738) (by decide +kernel), List.mem_of_getElem? (i := 1739) (by decide +kernel)⟩
theorem lw_p93 : lw_okq (⟨"DeskDaysModel", "rule", "()V"⟩, 70) := ⟨⟨by decide +kernel, by decide +kernel⟩, List.mem_of_getElem? (i := 1359) (by decide +kernel), List.mem_of_getElem? (i := 1742) (by decide +kernel), List.mem_of_getElem? (i := 1743) (by decide +kernel)⟩
theorem lw_p94 : lw_okq (⟨"DeskDaysModel", "reads", "(Z)V"⟩, 70) := ⟨⟨by decide +kernel, by decide +kernel⟩, List.mem_of_getElem? (i := 1359) (by decide +kernel), List.mem_of_getElem? (i := 1746) (by decide +kernel), List.mem_of_getElem? (i := 1747) (by decide +kernel)⟩
theorem lw_p95 : lw_okq (⟨"DeskDaysModel", "pushes", "(I)V"⟩, 70) := ⟨⟨by decide +kernel, by decide +kernel⟩, List.mem_of_getElem? (i := 1359) (by decide +kernel), List.mem_of_getElem? (i := 1750) (by decide +kernel), List.mem_of_getElem? (i := 1751) (by decide +kernel)⟩
def lw_privs_6 : List (MethodName × Nat) := [(⟨"DeskDaysModel", "asked", "(I)I"⟩, 70), (⟨"DeskDaysModel", "cannots", "()V"⟩, 70), (⟨"DeskDaysModel", "dayHere", "()I"⟩, 70), (⟨"DeskDaysModel", "liking", "()V"⟩, 70), (⟨"DeskDaysModel", "tie", "()V"⟩, 70), (⟨"DeskDaysModel", "coming", "()V"⟩, 70), (⟨"DeskDaysModel", "visit", "()V"⟩, 70), (⟨"DeskDaysModel", "others", "()V"⟩, 70), (⟨"DeskDaysModel", "owns", "()V"⟩, 70), (⟨"DeskDaysModel", "ownedOn", "(II)I"⟩, 70), (⟨"DeskDaysModel", "meeting", "()V"⟩, 70), (⟨"DeskDaysModel", "turning", "()V"⟩, 70), (⟨"DeskDaysModel", "standing", "()V"⟩, 70), (⟨"DeskDaysModel", "rule", "()V"⟩, 70), (⟨"DeskDaysModel", "reads", "(Z)V"⟩, 70), (⟨"DeskDaysModel", "pushes", "(I)V"⟩, 70)]
theorem lw_r6 : ∀ q ∈ lw_privs_6, lw_okq q := List.forall_mem_cons.mpr ⟨lw_p80, List.forall_mem_cons.mpr ⟨lw_p81, List.forall_mem_cons.mpr ⟨lw_p82, List.forall_mem_cons.mpr ⟨lw_p83, List.forall_mem_cons.mpr ⟨lw_p84, List.forall_mem_cons.mpr ⟨lw_p85, List.forall_mem_cons.mpr ⟨lw_p86, List.forall_mem_cons.mpr ⟨lw_p87, List.forall_mem_cons.mpr ⟨lw_p88, List.forall_mem_cons.mpr ⟨lw_p89, List.forall_mem_cons.mpr ⟨lw_p90, List.forall_mem_cons.mpr ⟨lw_p91, List.forall_mem_cons.mpr ⟨lw_p92, List.forall_mem_cons.mpr ⟨lw_p93, List.forall_mem_cons.mpr ⟨lw_p94, List.forall_mem_cons.mpr ⟨lw_p95, fun _ h => absurd h List.not_mem_nil⟩⟩⟩⟩⟩⟩⟩⟩⟩⟩⟩⟩⟩⟩⟩⟩
theorem lw_p96 : lw_okq (⟨"DeskDaysModel", "operand", "()Z"⟩, 70) := ⟨⟨by decide +kernel, by decide +kernel⟩, List.mem_of_getElem? (i := 1359) (by decide +kernel), List.mem_of_getElem? (i := 1754) (by decide +kernel), List.mem_of_getElem? (i := 1755) (by decide +kernel)⟩
theorem lw_p97 : lw_okq (⟨"DeskDaysModel", "holdsBack", "(I)V"⟩, 70) := ⟨⟨by decide +kernel, by decide +kernel⟩, List.mem_of_getElem? (i := 1359) (by decide +kernel), List.mem_of_getElem? (i := 1761) (by decide +kernel), List.mem_of_getElem? (i := 1762) (by decide +kernel)⟩
theorem lw_p98 : lw_okq (⟨"DeskDaysModel", "isSign", "(I)Z"⟩, 70) := ⟨⟨by decide +kernel, by decide +kernel⟩, List.mem_of_getElem? (i := 1359) (by decide +kernel), List.mem_of_getElem? (i := 1765) (by decide +kernel), List.mem_of_getElem? (i := 1766) (by decide +kernel)⟩
theorem lw_p99 : lw_okq (⟨"DeskDaysModel", "opens", "(I)V"⟩, 70) := ⟨⟨by decide +kernel, by decide +kernel⟩, List.mem_of_getElem? (i := 1359) (by decide +kernel), List.mem_of_getElem? (i := 1769) (by decide +kernel), List.mem_of_getElem? (i := 1770) (by decide +kernel)⟩
theorem lw_p100 : lw_okq (⟨"DeskDaysModel", "add", "(II)V"⟩, 70) := ⟨⟨by decide +kernel, by decide +kernel⟩, List.mem_of_getElem? (i := 1359) (by decide +kernel), List.mem_of_getElem? (i := 1773) (by decide +kernel), List.mem_of_getElem? (i := 1774) (by decide +kernel)⟩
theorem lw_p101 : lw_okq (⟨"DeskDaysModel", "goesOn", "()Z"⟩, 70) := ⟨⟨by decide +kernel, by decide +kernel⟩, List.mem_of_getElem? (i := 1359) (by decide +kernel), List.mem_of_getElem? (i := 1777) (by decide +kernel), List.mem_of_getElem? (i := 1778) (by decide +kernel)⟩
theorem lw_p102 : lw_okq (⟨"DeskDaysModel", "joins", "(I)V"⟩, 70) := ⟨⟨by decide +kernel, by decide +kernel⟩, List.mem_of_getElem? (i := 1359) (by decide +kernel), List.mem_of_getElem? (i := 1781) (by decide +kernel), List.mem_of_getElem? (i := 1782) (by decide +kernel)⟩
theorem lw_p103 : lw_okq (⟨"DeskDaysModel", "must", "(I)V"⟩, 70) := ⟨⟨by decide +kernel, by decide +kernel⟩, List.mem_of_getElem? (i := 1359) (by decide +kernel), List.mem_of_getElem? (i := 1788) (by decide +kernel), List.mem_of_getElem? (i := 1789) (by decide +kernel)⟩
theorem lw_p104 : lw_okq (⟨"DeskDaysModel", "desksAll", "()I"⟩, 70) := ⟨⟨by decide +kernel, by decide +kernel⟩, List.mem_of_getElem? (i := 1359) (by decide +kernel), List.mem_of_getElem? (i := 1804) (by decide +kernel), List.mem_of_getElem? (i := 1805) (by decide +kernel)⟩
theorem lw_p105 : lw_okq (⟨"DeskDaysModel", "ownedAll", "()I"⟩, 70) := ⟨⟨by decide +kernel, by decide +kernel⟩, List.mem_of_getElem? (i := 1359) (by decide +kernel), List.mem_of_getElem? (i := 1808) (by decide +kernel), List.mem_of_getElem? (i := 1809) (by decide +kernel)⟩
theorem lw_p106 : lw_okq (⟨"DeskDaysModel", "floorOf", "(I)I"⟩, 70) := ⟨⟨by decide +kernel, by decide +kernel⟩, List.mem_of_getElem? (i := 1359) (by decide +kernel), List.mem_of_getElem? (i := 1812) (by decide +kernel), List.mem_of_getElem? (i := 1813) (by decide +kernel)⟩
theorem lw_p107 : lw_okq (⟨"DeskDaysModel", "isPerson", "(I)Z"⟩, 70) := ⟨⟨by decide +kernel, by decide +kernel⟩, List.mem_of_getElem? (i := 1359) (by decide +kernel), List.mem_of_getElem? (i := 1824) (by decide +kernel), List.mem_of_getElem? (i := 1825) (by decide +kernel)⟩
theorem lw_p108 : lw_okq (⟨"DeskDaysModel", "suiting", "(I)I"⟩, 70) := ⟨⟨by decide +kernel, by decide +kernel⟩, List.mem_of_getElem? (i := 1359) (by decide +kernel), List.mem_of_getElem? (i := 1832) (by decide +kernel), List.mem_of_getElem? (i := 1833) (by decide +kernel)⟩
theorem lw_p109 : lw_okq (⟨"DeskDaysModel", "suits", "(II)Z"⟩, 70) := ⟨⟨by decide +kernel, by decide +kernel⟩, List.mem_of_getElem? (i := 1359) (by decide +kernel), List.mem_of_getElem? (i := 1836) (by decide +kernel), List.mem_of_getElem? (i := 1837) (by decide +kernel)⟩
theorem lw_p110 : lw_okq (⟨"DeskDaysModel", "inOn", "(I)I"⟩, 70) := ⟨⟨by decide +kernel, by decide +kernel⟩, List.mem_of_getElem? (i := 1359) (by decide +kernel), List.mem_of_getElem? (i := 1862) (by decide +kernel), List.mem_of_getElem? (i := 1863) (by decide +kernel)⟩
theorem lw_p111 : lw_okq (⟨"DeskDaysModel", "isIn", "(II)Z"⟩, 70) := ⟨⟨by decide +kernel, by decide +kernel⟩, List.mem_of_getElem? (i := 1359) (by decide +kernel), List.mem_of_getElem? (i := 1866) (by decide +kernel), List.mem_of_getElem? (i := 1867) (by decide +kernel)⟩
def lw_privs_7 : List (MethodName × Nat) := [(⟨"DeskDaysModel", "operand", "()Z"⟩, 70), (⟨"DeskDaysModel", "holdsBack", "(I)V"⟩, 70), (⟨"DeskDaysModel", "isSign", "(I)Z"⟩, 70), (⟨"DeskDaysModel", "opens", "(I)V"⟩, 70), (⟨"DeskDaysModel", "add", "(II)V"⟩, 70), (⟨"DeskDaysModel", "goesOn", "()Z"⟩, 70), (⟨"DeskDaysModel", "joins", "(I)V"⟩, 70), (⟨"DeskDaysModel", "must", "(I)V"⟩, 70), (⟨"DeskDaysModel", "desksAll", "()I"⟩, 70), (⟨"DeskDaysModel", "ownedAll", "()I"⟩, 70), (⟨"DeskDaysModel", "floorOf", "(I)I"⟩, 70), (⟨"DeskDaysModel", "isPerson", "(I)Z"⟩, 70), (⟨"DeskDaysModel", "suiting", "(I)I"⟩, 70), (⟨"DeskDaysModel", "suits", "(II)Z"⟩, 70), (⟨"DeskDaysModel", "inOn", "(I)I"⟩, 70), (⟨"DeskDaysModel", "isIn", "(II)Z"⟩, 70)]
theorem lw_r7 : ∀ q ∈ lw_privs_7, lw_okq q := List.forall_mem_cons.mpr ⟨lw_p96, List.forall_mem_cons.mpr ⟨lw_p97, List.forall_mem_cons.mpr ⟨lw_p98, List.forall_mem_cons.mpr ⟨lw_p99, List.forall_mem_cons.mpr ⟨lw_p100, List.forall_mem_cons.mpr ⟨lw_p101, List.forall_mem_cons.mpr ⟨lw_p102, List.forall_mem_cons.mpr ⟨lw_p103, List.forall_mem_cons.mpr ⟨lw_p104, List.forall_mem_cons.mpr ⟨lw_p105, List.forall_mem_cons.mpr ⟨lw_p106, List.forall_mem_cons.mpr ⟨lw_p107, List.forall_mem_cons.mpr ⟨lw_p108, List.forall_mem_cons.mpr ⟨lw_p109, List.forall_mem_cons.mpr ⟨lw_p110, List.forall_mem_cons.mpr ⟨lw_p111, fun _ h => absurd h List.not_mem_nil⟩⟩⟩⟩⟩⟩⟩⟩⟩⟩⟩⟩⟩⟩⟩⟩
theorem lw_p112 : lw_okq (⟨"DeskDaysModel", "standOn", "(I)I"⟩, 70) := ⟨⟨by decide +kernel, by decide +kernel⟩, List.mem_of_getElem? (i := 1359) (by decide +kernel), List.mem_of_getElem? (i := 1870) (by decide +kernel), List.mem_of_getElem? (i := 1871) (by decide +kernel)⟩
theorem lw_p113 : lw_okq (⟨"DeskDaysModel", "othersOn", "(I)I"⟩, 70) := ⟨⟨by decide +kernel, by decide +kernel⟩, List.mem_of_getElem? (i := 1359) (by decide +kernel), List.mem_of_getElem? (i := 1874) (by decide +kernel), List.mem_of_getElem? (i := 1875) (by decide +kernel)⟩
theorem lw_p114 : lw_okq (⟨"DeskDaysModel", "spare", "()I"⟩, 70) := ⟨⟨by decide +kernel, by decide +kernel⟩, List.mem_of_getElem? (i := 1359) (by decide +kernel), List.mem_of_getElem? (i := 1878) (by decide +kernel), List.mem_of_getElem? (i := 1879) (by decide +kernel)⟩
theorem lw_p115 : lw_okq (⟨"DeskDaysModel", "metOn", "(I)I"⟩, 70) := ⟨⟨by decide +kernel, by decide +kernel⟩, List.mem_of_getElem? (i := 1359) (by decide +kernel), List.mem_of_getElem? (i := 1886) (by decide +kernel), List.mem_of_getElem? (i := 1887) (by decide +kernel)⟩
theorem lw_p116 : lw_okq (⟨"DeskDaysModel", "holds", "()Z"⟩, 70) := ⟨⟨by decide +kernel, by decide +kernel⟩, List.mem_of_getElem? (i := 1359) (by decide +kernel), List.mem_of_getElem? (i := 1894) (by decide +kernel), List.mem_of_getElem? (i := 1895) (by decide +kernel)⟩
theorem lw_p117 : lw_okq (⟨"DeskDaysModel", "wrong", "(III)V"⟩, 70) := ⟨⟨by decide +kernel, by decide +kernel⟩, List.mem_of_getElem? (i := 1359) (by decide +kernel), List.mem_of_getElem? (i := 1898) (by decide +kernel), List.mem_of_getElem? (i := 1899) (by decide +kernel)⟩
theorem lw_p118 : lw_okq (⟨"DeskDaysModel", "together", "(I)I"⟩, 70) := ⟨⟨by decide +kernel, by decide +kernel⟩, List.mem_of_getElem? (i := 1359) (by decide +kernel), List.mem_of_getElem? (i := 1902) (by decide +kernel), List.mem_of_getElem? (i := 1903) (by decide +kernel)⟩
theorem lw_p119 : lw_okq (⟨"DeskDaysModel", "tied", "()I"⟩, 70) := ⟨⟨by decide +kernel, by decide +kernel⟩, List.mem_of_getElem? (i := 1359) (by decide +kernel), List.mem_of_getElem? (i := 1910) (by decide +kernel), List.mem_of_getElem? (i := 1911) (by decide +kernel)⟩
theorem lw_p120 : lw_okq (⟨"DeskDaysModel", "ruled", "(II)I"⟩, 70) := ⟨⟨by decide +kernel, by decide +kernel⟩, List.mem_of_getElem? (i := 1359) (by decide +kernel), List.mem_of_getElem? (i := 1914) (by decide +kernel), List.mem_of_getElem? (i := 1915) (by decide +kernel)⟩
theorem lw_p121 : lw_okq (⟨"DeskDaysModel", "works", "(II)J"⟩, 70) := ⟨⟨by decide +kernel, by decide +kernel⟩, List.mem_of_getElem? (i := 1359) (by decide +kernel), List.mem_of_getElem? (i := 1918) (by decide +kernel), List.mem_of_getElem? (i := 1919) (by decide +kernel)⟩
theorem lw_p122 : lw_okq (⟨"DeskDaysModel", "sought", "(I)I"⟩, 70) := ⟨⟨by decide +kernel, by decide +kernel⟩, List.mem_of_getElem? (i := 1359) (by decide +kernel), List.mem_of_getElem? (i := 1937) (by decide +kernel), List.mem_of_getElem? (i := 1938) (by decide +kernel)⟩
theorem lw_p123 : lw_okq (⟨"DeskDaysModel", "may", "(II)Z"⟩, 70) := ⟨⟨by decide +kernel, by decide +kernel⟩, List.mem_of_getElem? (i := 1359) (by decide +kernel), List.mem_of_getElem? (i := 1941) (by decide +kernel), List.mem_of_getElem? (i := 1942) (by decide +kernel)⟩
theorem lw_p124 : lw_okq (⟨"DeskDaysModel", "triedOn", "(II)I"⟩, 70) := ⟨⟨by decide +kernel, by decide +kernel⟩, List.mem_of_getElem? (i := 1359) (by decide +kernel), List.mem_of_getElem? (i := 1945) (by decide +kernel), List.mem_of_getElem? (i := 1946) (by decide +kernel)⟩
theorem lw_p125 : lw_okq (⟨"DeskDaysModel", "isLastOf", "(I)Z"⟩, 70) := ⟨⟨by decide +kernel, by decide +kernel⟩, List.mem_of_getElem? (i := 1359) (by decide +kernel), List.mem_of_getElem? (i := 1949) (by decide +kernel), List.mem_of_getElem? (i := 1950) (by decide +kernel)⟩
theorem lw_p126 : lw_okq (⟨"DeskDaysModel", "betters", "(I)Z"⟩, 70) := ⟨⟨by decide +kernel, by decide +kernel⟩, List.mem_of_getElem? (i := 1359) (by decide +kernel), List.mem_of_getElem? (i := 1966) (by decide +kernel), List.mem_of_getElem? (i := 1967) (by decide +kernel)⟩
theorem lw_p127 : lw_okq (⟨"DeskDaysModel", "isLonely", "(I)Z"⟩, 70) := ⟨⟨by decide +kernel, by decide +kernel⟩, List.mem_of_getElem? (i := 1359) (by decide +kernel), List.mem_of_getElem? (i := 1983) (by decide +kernel), List.mem_of_getElem? (i := 1984) (by decide +kernel)⟩
def lw_privs_8 : List (MethodName × Nat) := [(⟨"DeskDaysModel", "standOn", "(I)I"⟩, 70), (⟨"DeskDaysModel", "othersOn", "(I)I"⟩, 70), (⟨"DeskDaysModel", "spare", "()I"⟩, 70), (⟨"DeskDaysModel", "metOn", "(I)I"⟩, 70), (⟨"DeskDaysModel", "holds", "()Z"⟩, 70), (⟨"DeskDaysModel", "wrong", "(III)V"⟩, 70), (⟨"DeskDaysModel", "together", "(I)I"⟩, 70), (⟨"DeskDaysModel", "tied", "()I"⟩, 70), (⟨"DeskDaysModel", "ruled", "(II)I"⟩, 70), (⟨"DeskDaysModel", "works", "(II)J"⟩, 70), (⟨"DeskDaysModel", "sought", "(I)I"⟩, 70), (⟨"DeskDaysModel", "may", "(II)Z"⟩, 70), (⟨"DeskDaysModel", "triedOn", "(II)I"⟩, 70), (⟨"DeskDaysModel", "isLastOf", "(I)Z"⟩, 70), (⟨"DeskDaysModel", "betters", "(I)Z"⟩, 70), (⟨"DeskDaysModel", "isLonely", "(I)Z"⟩, 70)]
theorem lw_r8 : ∀ q ∈ lw_privs_8, lw_okq q := List.forall_mem_cons.mpr ⟨lw_p112, List.forall_mem_cons.mpr ⟨lw_p113, List.forall_mem_cons.mpr ⟨lw_p114, List.forall_mem_cons.mpr ⟨lw_p115, List.forall_mem_cons.mpr ⟨lw_p116, List.forall_mem_cons.mpr ⟨lw_p117, List.forall_mem_cons.mpr ⟨lw_p118, List.forall_mem_cons.mpr ⟨lw_p119, List.forall_mem_cons.mpr ⟨lw_p120, List.forall_mem_cons.mpr ⟨lw_p121, List.forall_mem_cons.mpr ⟨lw_p122, List.forall_mem_cons.mpr ⟨lw_p123, List.forall_mem_cons.mpr ⟨lw_p124, List.forall_mem_cons.mpr ⟨lw_p125, List.forall_mem_cons.mpr ⟨lw_p126, List.forall_mem_cons.mpr ⟨lw_p127, fun _ h => absurd h List.not_mem_nil⟩⟩⟩⟩⟩⟩⟩⟩⟩⟩⟩⟩⟩⟩⟩⟩
theorem lw_p128 : lw_okq (⟨"DeskDaysModel", "comers", "(I)V"⟩, 70) := ⟨⟨by decide +kernel, by decide +kernel⟩, List.mem_of_getElem? (i := 1359) (by decide +kernel), List.mem_of_getElem? (i := 1999) (by decide +kernel), List.mem_of_getElem? (i := 2000) (by decide +kernel)⟩
theorem lw_p129 : lw_okq (⟨"DeskDaysModel", "nobody", "()V"⟩, 70) := ⟨⟨by decide +kernel, by decide +kernel⟩, List.mem_of_getElem? (i := 1359) (by decide +kernel), List.mem_of_getElem? (i := 2003) (by decide +kernel), List.mem_of_getElem? (i := 2004) (by decide +kernel)⟩
theorem lw_p130 : lw_okq (⟨"DeskDaysModel", "oneMore", "(I)V"⟩, 70) := ⟨⟨by decide +kernel, by decide +kernel⟩, List.mem_of_getElem? (i := 1359) (by decide +kernel), List.mem_of_getElem? (i := 2008) (by decide +kernel), List.mem_of_getElem? (i := 2009) (by decide +kernel)⟩
theorem lw_p131 : lw_okq (⟨"DeskDaysModel", "above", "(I)J"⟩, 70) := ⟨⟨by decide +kernel, by decide +kernel⟩, List.mem_of_getElem? (i := 1359) (by decide +kernel), List.mem_of_getElem? (i := 2013) (by decide +kernel), List.mem_of_getElem? (i := 2014) (by decide +kernel)⟩
theorem lw_p132 : lw_okq (⟨"DeskDaysModel", "drawn", "(I)I"⟩, 70) := ⟨⟨by decide +kernel, by decide +kernel⟩, List.mem_of_getElem? (i := 1359) (by decide +kernel), List.mem_of_getElem? (i := 2034) (by decide +kernel), List.mem_of_getElem? (i := 2035) (by decide +kernel)⟩
theorem lw_p133 : lw_okq (⟨"DeskDaysModel", "aloneOf", "(II)I"⟩, 70) := ⟨⟨by decide +kernel, by decide +kernel⟩, List.mem_of_getElem? (i := 1359) (by decide +kernel), List.mem_of_getElem? (i := 2050) (by decide +kernel), List.mem_of_getElem? (i := 2051) (by decide +kernel)⟩
theorem lw_p134 : lw_okq (⟨"DeskDaysModel", "round", "()Z"⟩, 70) := ⟨⟨by decide +kernel, by decide +kernel⟩, List.mem_of_getElem? (i := 1359) (by decide +kernel), List.mem_of_getElem? (i := 2058) (by decide +kernel), List.mem_of_getElem? (i := 2059) (by decide +kernel)⟩
theorem lw_p135 : lw_okq (⟨"DeskDaysModel", "seats", "(I)V"⟩, 70) := ⟨⟨by decide +kernel, by decide +kernel⟩, List.mem_of_getElem? (i := 1359) (by decide +kernel), List.mem_of_getElem? (i := 2066) (by decide +kernel), List.mem_of_getElem? (i := 2067) (by decide +kernel)⟩
theorem lw_p136 : lw_okq (⟨"DeskDaysModel", "sitting", "(IZ)I"⟩, 70) := ⟨⟨by decide +kernel, by decide +kernel⟩, List.mem_of_getElem? (i := 1359) (by decide +kernel), List.mem_of_getElem? (i := 2070) (by decide +kernel), List.mem_of_getElem? (i := 2071) (by decide +kernel)⟩
theorem lw_p137 : lw_okq (⟨"DeskDaysModel", "tiesWith", "(II)I"⟩, 70) := ⟨⟨by decide +kernel, by decide +kernel⟩, List.mem_of_getElem? (i := 1359) (by decide +kernel), List.mem_of_getElem? (i := 2074) (by decide +kernel), List.mem_of_getElem? (i := 2075) (by decide +kernel)⟩
theorem lw_p138 : lw_okq (⟨"DeskDaysModel", "exchanged", "()I"⟩, 70) := ⟨⟨by decide +kernel, by decide +kernel⟩, List.mem_of_getElem? (i := 1359) (by decide +kernel), List.mem_of_getElem? (i := 2078) (by decide +kernel), List.mem_of_getElem? (i := 2079) (by decide +kernel)⟩
theorem lw_p139 : lw_okq (⟨"DeskDaysModel", "exchanges", "()Z"⟩, 70) := ⟨⟨by decide +kernel, by decide +kernel⟩, List.mem_of_getElem? (i := 1359) (by decide +kernel), List.mem_of_getElem? (i := 2082) (by decide +kernel), List.mem_of_getElem? (i := 2083) (by decide +kernel)⟩
theorem lw_p140 : lw_okq (⟨"DeskDaysModel", "fitOf", "()I"⟩, 70) := ⟨⟨by decide +kernel, by decide +kernel⟩, List.mem_of_getElem? (i := 1359) (by decide +kernel), List.mem_of_getElem? (i := 2086) (by decide +kernel), List.mem_of_getElem? (i := 2087) (by decide +kernel)⟩
theorem lw_p141 : lw_okq (⟨"DeskDaysModel", "isMovable", "(I)Z"⟩, 70) := ⟨⟨by decide +kernel, by decide +kernel⟩, List.mem_of_getElem? (i := 1359) (by decide +kernel), List.mem_of_getElem? (i := 2090) (by decide +kernel), List.mem_of_getElem? (i := 2091) (by decide +kernel)⟩
theorem lw_p142 : lw_okq (⟨"DeskDaysModel", "change", "(II)V"⟩, 70) := ⟨⟨by decide +kernel, by decide +kernel⟩, List.mem_of_getElem? (i := 1359) (by decide +kernel), List.mem_of_getElem? (i := 2094) (by decide +kernel), List.mem_of_getElem? (i := 2095) (by decide +kernel)⟩
theorem lw_p143 : lw_okq (⟨"DeskDaysModel", "ownerIn", "(II)Z"⟩, 70) := ⟨⟨by decide +kernel, by decide +kernel⟩, List.mem_of_getElem? (i := 1359) (by decide +kernel), List.mem_of_getElem? (i := 2106) (by decide +kernel), List.mem_of_getElem? (i := 2107) (by decide +kernel)⟩
def lw_privs_9 : List (MethodName × Nat) := [(⟨"DeskDaysModel", "comers", "(I)V"⟩, 70), (⟨"DeskDaysModel", "nobody", "()V"⟩, 70), (⟨"DeskDaysModel", "oneMore", "(I)V"⟩, 70), (⟨"DeskDaysModel", "above", "(I)J"⟩, 70), (⟨"DeskDaysModel", "drawn", "(I)I"⟩, 70), (⟨"DeskDaysModel", "aloneOf", "(II)I"⟩, 70), (⟨"DeskDaysModel", "round", "()Z"⟩, 70), (⟨"DeskDaysModel", "seats", "(I)V"⟩, 70), (⟨"DeskDaysModel", "sitting", "(IZ)I"⟩, 70), (⟨"DeskDaysModel", "tiesWith", "(II)I"⟩, 70), (⟨"DeskDaysModel", "exchanged", "()I"⟩, 70), (⟨"DeskDaysModel", "exchanges", "()Z"⟩, 70), (⟨"DeskDaysModel", "fitOf", "()I"⟩, 70), (⟨"DeskDaysModel", "isMovable", "(I)Z"⟩, 70), (⟨"DeskDaysModel", "change", "(II)V"⟩, 70), (⟨"DeskDaysModel", "ownerIn", "(II)Z"⟩, 70)]
theorem lw_r9 : ∀ q ∈ lw_privs_9, lw_okq q := List.forall_mem_cons.mpr ⟨lw_p128, List.forall_mem_cons.mpr ⟨lw_p129, List.forall_mem_cons.mpr ⟨lw_p130, List.forall_mem_cons.mpr ⟨lw_p131, List.forall_mem_cons.mpr ⟨lw_p132, List.forall_mem_cons.mpr ⟨lw_p133, List.forall_mem_cons.mpr ⟨lw_p134, List.forall_mem_cons.mpr ⟨lw_p135, List.forall_mem_cons.mpr ⟨lw_p136, List.forall_mem_cons.mpr ⟨lw_p137, List.forall_mem_cons.mpr ⟨lw_p138, List.forall_mem_cons.mpr ⟨lw_p139, List.forall_mem_cons.mpr ⟨lw_p140, List.forall_mem_cons.mpr ⟨lw_p141, List.forall_mem_cons.mpr ⟨lw_p142, List.forall_mem_cons.mpr ⟨lw_p143, fun _ h => absurd h List.not_mem_nil⟩⟩⟩⟩⟩⟩⟩⟩⟩⟩⟩⟩⟩⟩⟩⟩
theorem lw_p144 : lw_okq (⟨"DeskDaysModel", "neverIn", "(I)I"⟩, 70) := ⟨⟨by decide +kernel, by decide +kernel⟩, List.mem_of_getElem? (i := 1359) (by decide +kernel), List.mem_of_getElem? (i := 2114) (by decide +kernel), List.mem_of_getElem? (i := 2115) (by decide +kernel)⟩
theorem lw_p145 : lw_okq (⟨"DeskDaysModel", "turned", "(II)I"⟩, 70) := ⟨⟨by decide +kernel, by decide +kernel⟩, List.mem_of_getElem? (i := 1359) (by decide +kernel), List.mem_of_getElem? (i := 2118) (by decide +kernel), List.mem_of_getElem? (i := 2119) (by decide +kernel)⟩
theorem lw_p146 : lw_okq (⟨"DeskDaysModel", "writes", "(I)V"⟩, 70) := ⟨⟨by decide +kernel, by decide +kernel⟩, List.mem_of_getElem? (i := 1359) (by decide +kernel), List.mem_of_getElem? (i := 2138) (by decide +kernel), List.mem_of_getElem? (i := 2139) (by decide +kernel)⟩
def lw_privs_10 : List (MethodName × Nat) := [(⟨"DeskDaysModel", "neverIn", "(I)I"⟩, 70), (⟨"DeskDaysModel", "turned", "(II)I"⟩, 70), (⟨"DeskDaysModel", "writes", "(I)V"⟩, 70)]
theorem lw_r10 : ∀ q ∈ lw_privs_10, lw_okq q := List.forall_mem_cons.mpr ⟨lw_p144, List.forall_mem_cons.mpr ⟨lw_p145, List.forall_mem_cons.mpr ⟨lw_p146, fun _ h => absurd h List.not_mem_nil⟩⟩⟩
def lw_privs : List (MethodName × Nat) := lw_privs_1 ++ (lw_privs_2 ++ (lw_privs_3 ++ (lw_privs_4 ++ (lw_privs_5 ++ (lw_privs_6 ++ (lw_privs_7 ++ (lw_privs_8 ++ (lw_privs_9 ++ (lw_privs_10)))))))))
def lw_tbl : List Cond := k2_sels lw_privs ++ tables_1
theorem lw_privs_ok : ∀ q ∈ lw_privs, lw_okq q := by
  show ∀ q ∈ lw_privs_1 ++ (lw_privs_2 ++ (lw_privs_3 ++ (lw_privs_4 ++ (lw_privs_5 ++ (lw_privs_6 ++ (lw_privs_7 ++ (lw_privs_8 ++ (lw_privs_9 ++ (lw_privs_10))))))))), lw_okq q
  exact List.forall_mem_append.mpr ⟨lw_r1, List.forall_mem_append.mpr ⟨lw_r2, List.forall_mem_append.mpr ⟨lw_r3, List.forall_mem_append.mpr ⟨lw_r4, List.forall_mem_append.mpr ⟨lw_r5, List.forall_mem_append.mpr ⟨lw_r6, List.forall_mem_append.mpr ⟨lw_r7, List.forall_mem_append.mpr ⟨lw_r8, List.forall_mem_append.mpr ⟨lw_r9, lw_r10⟩⟩⟩⟩⟩⟩⟩⟩⟩
end
section
def RX0 : String := "DeskDays$Chances"
def TX0 : u_T := fun k => match k with
  | 0 => ("DeskDays$Chances", "likelihood", "[J", true)
  | _ => ("DeskDays$Chances", "comers", "I", false)
def tyX0 : Nat → FieldType := fun k => match k with
  | 0 => .array .long
  | _ => .int
abbrev wsX00 : List Cond := u_ws RX0 TX0 2
theorem nmX0 : ∀ a, a < 2 → ∀ b, b < 2 → a ≠ b → (TX0 a).2.1 ≠ (TX0 b).2.1 := by decide +kernel
theorem tyX0_ok : ∀ k, k < 2 → parseFieldDescriptor (TX0 k).2.2.1 = some (tyX0 k) := by decide +kernel
abbrev cX0_init : ByteArray := prog_2_method_1_code
def yX0_init : MethodName := ⟨RX0, "<init>", "()V"⟩
abbrev cX0_begin : ByteArray := prog_2_method_2_code
def yX0_begin : MethodName := ⟨RX0, "begin", "()V"⟩
abbrev cX0_admit : ByteArray := prog_2_method_3_code
def yX0_admit : MethodName := ⟨RX0, "admit", "(I)V"⟩
abbrev cX0_gather : ByteArray := prog_2_method_4_code
def yX0_gather : MethodName := ⟨RX0, "gather", "(LDeskDays$Plan;I)V"⟩
abbrev cX0_above : ByteArray := prog_2_method_5_code
def yX0_above : MethodName := ⟨RX0, "above", "(I)J"⟩
abbrev cX0_meanAbove : ByteArray := prog_2_method_6_code
def yX0_meanAbove : MethodName := ⟨RX0, "meanAbove", "(I)J"⟩
abbrev cX0_mostBookings : ByteArray := prog_2_method_7_code
def yX0_mostBookings : MethodName := ⟨RX0, "mostBookings", "(III)I"⟩
def RX1 : String := "DeskDays$Floors"
def TX1 : u_T := fun k => match k with
  | 0 => ("DeskDays$Floors", "count", "I", false)
  | 1 => ("DeskDays$Floors", "allDesks", "I", false)
  | 2 => ("DeskDays$Floors", "allOwned", "I", false)
  | 3 => ("DeskDays$Floors", "name", "[I", true)
  | 4 => ("DeskDays$Floors", "desks", "[I", true)
  | 5 => ("DeskDays$Floors", "noise", "[I", true)
  | 6 => ("DeskDays$Floors", "cost", "[I", true)
  | _ => ("DeskDays$Floors", "owned", "[I", true)
def tyX1 : Nat → FieldType := fun k => match k with
  | 0 => .int
  | 1 => .int
  | 2 => .int
  | 3 => .array .int
  | 4 => .array .int
  | 5 => .array .int
  | 6 => .array .int
  | _ => .array .int
abbrev wsX10 : List Cond := u_ws RX1 TX1 8
theorem nmX1 : ∀ a, a < 8 → ∀ b, b < 8 → a ≠ b → (TX1 a).2.1 ≠ (TX1 b).2.1 := by decide +kernel
theorem tyX1_ok : ∀ k, k < 8 → parseFieldDescriptor (TX1 k).2.2.1 = some (tyX1 k) := by decide +kernel
abbrev cX1_init : ByteArray := prog_3_method_1_code
def yX1_init : MethodName := ⟨RX1, "<init>", "()V"⟩
abbrev cX1_clear : ByteArray := prog_3_method_2_code
def yX1_clear : MethodName := ⟨RX1, "clear", "()V"⟩
abbrev cX1_add : ByteArray := prog_3_method_3_code
def yX1_add : MethodName := ⟨RX1, "add", "(IIII)V"⟩
def RX2 : String := "DeskDays$House"
def TX2 : u_T := fun k => match k with
  | 0 => ("DeskDays$House", "floors", "LDeskDays$Floors;", true)
  | 1 => ("DeskDays$House", "people", "LDeskDays$People;", true)
  | 2 => ("DeskDays$House", "rules", "LDeskDays$Rules;", true)
  | 3 => ("DeskDays$House", "teams", "I", false)
  | 4 => ("DeskDays$House", "teamName", "[I", true)
  | 5 => ("DeskDays$House", "mustMeet", "[Z", true)
  | 6 => ("DeskDays$House", "lastMember", "[I", true)
  | 7 => ("DeskDays$House", "ties", "I", false)
  | 8 => ("DeskDays$House", "tieFirst", "[I", true)
  | 9 => ("DeskDays$House", "tieSecond", "[I", true)
  | 10 => ("DeskDays$House", "tieNumber", "[I", true)
  | 11 => ("DeskDays$House", "visitors", "[I", true)
  | 12 => ("DeskDays$House", "visitComes", "[I", true)
  | _ => ("DeskDays$House", "stand", "I", false)
def tyX2 : Nat → FieldType := fun k => match k with
  | 0 => .object "DeskDays$Floors"
  | 1 => .object "DeskDays$People"
  | 2 => .object "DeskDays$Rules"
  | 3 => .int
  | 4 => .array .int
  | 5 => .array .boolean
  | 6 => .array .int
  | 7 => .int
  | 8 => .array .int
  | 9 => .array .int
  | 10 => .array .int
  | 11 => .array .int
  | 12 => .array .int
  | _ => .int
abbrev wsX20 : List Cond := u_ws RX2 TX2 14
theorem nmX2 : ∀ a, a < 14 → ∀ b, b < 14 → a ≠ b → (TX2 a).2.1 ≠ (TX2 b).2.1 := by decide +kernel
theorem tyX2_ok : ∀ k, k < 14 → parseFieldDescriptor (TX2 k).2.2.1 = some (tyX2 k) := by decide +kernel
abbrev cX2_init : ByteArray := prog_4_method_1_code
def yX2_init : MethodName := ⟨RX2, "<init>", "()V"⟩
abbrev cX2_clear : ByteArray := prog_4_method_2_code
def yX2_clear : MethodName := ⟨RX2, "clear", "()V"⟩
abbrev cX2_addTeam : ByteArray := prog_4_method_3_code
def yX2_addTeam : MethodName := ⟨RX2, "addTeam", "(I)V"⟩
abbrev cX2_addTie : ByteArray := prog_4_method_4_code
def yX2_addTie : MethodName := ⟨RX2, "addTie", "(III)V"⟩
abbrev cX2_finish : ByteArray := prog_4_method_5_code
def yX2_finish : MethodName := ⟨RX2, "finish", "()V"⟩
abbrev cX2_findFloor : ByteArray := prog_4_method_6_code
def yX2_findFloor : MethodName := ⟨RX2, "findFloor", "(I)I"⟩
abbrev cX2_findTeam : ByteArray := prog_4_method_7_code
def yX2_findTeam : MethodName := ⟨RX2, "findTeam", "(I)I"⟩
abbrev cX2_findPerson : ByteArray := prog_4_method_8_code
def yX2_findPerson : MethodName := ⟨RX2, "findPerson", "(I)I"⟩
abbrev cX2_find : ByteArray := prog_4_method_9_code
def yX2_find : MethodName := ⟨RX2, "find", "([III)I"⟩
abbrev cX2_isNamed : ByteArray := prog_4_method_10_code
def yX2_isNamed : MethodName := ⟨RX2, "isNamed", "(I)Z"⟩
abbrev cX2_meetingTeams : ByteArray := prog_4_method_11_code
def yX2_meetingTeams : MethodName := ⟨RX2, "meetingTeams", "()I"⟩
abbrev cX2_tieBound : ByteArray := prog_4_method_12_code
def yX2_tieBound : MethodName := ⟨RX2, "tieBound", "()I"⟩
def RX3 : String := "DeskDays$People"
def TX3 : u_T := fun k => match k with
  | 0 => ("DeskDays$People", "count", "I", false)
  | 1 => ("DeskDays$People", "name", "[I", true)
  | 2 => ("DeskDays$People", "team", "[I", true)
  | 3 => ("DeskDays$People", "days", "[I", true)
  | 4 => ("DeskDays$People", "cannot", "[I", true)
  | 5 => ("DeskDays$People", "comes", "[I", true)
  | 6 => ("DeskDays$People", "own", "[I", true)
  | 7 => ("DeskDays$People", "turns", "[I", true)
  | 8 => ("DeskDays$People", "likes", "[I", true)
  | 9 => ("DeskDays$People", "suiting", "[I", true)
  | _ => ("DeskDays$People", "suitingCount", "[I", true)
def tyX3 : Nat → FieldType := fun k => match k with
  | 0 => .int
  | 1 => .array .int
  | 2 => .array .int
  | 3 => .array .int
  | 4 => .array .int
  | 5 => .array .int
  | 6 => .array .int
  | 7 => .array .int
  | 8 => .array .int
  | 9 => .array .int
  | _ => .array .int
abbrev wsX30 : List Cond := u_ws RX3 TX3 11
theorem nmX3 : ∀ a, a < 11 → ∀ b, b < 11 → a ≠ b → (TX3 a).2.1 ≠ (TX3 b).2.1 := by decide +kernel
theorem tyX3_ok : ∀ k, k < 11 → parseFieldDescriptor (TX3 k).2.2.1 = some (tyX3 k) := by decide +kernel
abbrev cX3_init : ByteArray := prog_5_method_1_code
def yX3_init : MethodName := ⟨RX3, "<init>", "()V"⟩
abbrev cX3_add : ByteArray := prog_5_method_2_code
def yX3_add : MethodName := ⟨RX3, "add", "(III)V"⟩
abbrev cX3_isSuited : ByteArray := prog_5_method_3_code
def yX3_isSuited : MethodName := ⟨RX3, "isSuited", "(II)Z"⟩
abbrev cX3_listSuiting : ByteArray := prog_5_method_4_code
def yX3_listSuiting : MethodName := ⟨RX3, "listSuiting", "()V"⟩
def RX4 : String := "DeskDays$Plan"
def TX4 : u_T := fun k => match k with
  | 0 => ("DeskDays$Plan", "house", "LDeskDays$House;", false)
  | 1 => ("DeskDays$Plan", "sets", "[I", true)
  | 2 => ("DeskDays$Plan", "wrong", "I", false)
  | 3 => ("DeskDays$Plan", "wrongWhich", "I", false)
  | 4 => ("DeskDays$Plan", "wrongDay", "I", false)
  | _ => ("DeskDays$Plan", "ruled", "[I", true)
def tyX4 : Nat → FieldType := fun k => match k with
  | 0 => .object "DeskDays$House"
  | 1 => .array .int
  | 2 => .int
  | 3 => .int
  | 4 => .int
  | _ => .array .int
abbrev wsX40 : List Cond := u_ws RX4 TX4 6
theorem nmX4 : ∀ a, a < 6 → ∀ b, b < 6 → a ≠ b → (TX4 a).2.1 ≠ (TX4 b).2.1 := by decide +kernel
theorem tyX4_ok : ∀ k, k < 6 → parseFieldDescriptor (TX4 k).2.2.1 = some (tyX4 k) := by decide +kernel
abbrev cX4_init : ByteArray := prog_6_method_1_code
def yX4_init : MethodName := ⟨RX4, "<init>", "(LDeskDays$House;)V"⟩
abbrev cX4_begin : ByteArray := prog_6_method_2_code
def yX4_begin : MethodName := ⟨RX4, "begin", "(LDeskDays$House;)V"⟩
abbrev cX4_isIn : ByteArray := prog_6_method_3_code
def yX4_isIn : MethodName := ⟨RX4, "isIn", "(II)Z"⟩
abbrev cX4_inCount : ByteArray := prog_6_method_4_code
def yX4_inCount : MethodName := ⟨RX4, "inCount", "(I)I"⟩
abbrev cX4_inWithoutOwn : ByteArray := prog_6_method_5_code
def yX4_inWithoutOwn : MethodName := ⟨RX4, "inWithoutOwn", "(I)I"⟩
abbrev cX4_standing : ByteArray := prog_6_method_6_code
def yX4_standing : MethodName := ⟨RX4, "standing", "(I)I"⟩
abbrev cX4_holds : ByteArray := prog_6_method_7_code
def yX4_holds : MethodName := ⟨RX4, "holds", "()Z"⟩
abbrev cX4_examine : ByteArray := prog_6_method_8_code
def yX4_examine : MethodName := ⟨RX4, "examine", "()V"⟩
abbrev cX4_findForbiddenDay : ByteArray := prog_6_method_9_code
def yX4_findForbiddenDay : MethodName := ⟨RX4, "findForbiddenDay", "()V"⟩
abbrev cX4_findOtherNumber : ByteArray := prog_6_method_10_code
def yX4_findOtherNumber : MethodName := ⟨RX4, "findOtherNumber", "()V"⟩
abbrev cX4_findStanding : ByteArray := prog_6_method_11_code
def yX4_findStanding : MethodName := ⟨RX4, "findStanding", "()V"⟩
abbrev cX4_findTeamApart : ByteArray := prog_6_method_12_code
def yX4_findTeamApart : MethodName := ⟨RX4, "findTeamApart", "()V"⟩
abbrev cX4_commonDays : ByteArray := prog_6_method_13_code
def yX4_commonDays : MethodName := ⟨RX4, "commonDays", "([II)I"⟩
abbrev cX4_metDays : ByteArray := prog_6_method_14_code
def yX4_metDays : MethodName := ⟨RX4, "metDays", "(I)I"⟩
abbrev cX4_tieWorth : ByteArray := prog_6_method_15_code
def yX4_tieWorth : MethodName := ⟨RX4, "tieWorth", "()I"⟩
abbrev cX4_total : ByteArray := prog_6_method_16_code
def yX4_total : MethodName := ⟨RX4, "total", "()I"⟩
abbrev cX4_ruledSum : ByteArray := prog_6_method_17_code
def yX4_ruledSum : MethodName := ⟨RX4, "ruledSum", "(III)I"⟩
abbrev cX4_greatestUnmet : ByteArray := prog_6_method_18_code
def yX4_greatestUnmet : MethodName := ⟨RX4, "greatestUnmet", "()I"⟩
abbrev cX4_unmetTies : ByteArray := prog_6_method_19_code
def yX4_unmetTies : MethodName := ⟨RX4, "unmetTies", "()I"⟩
abbrev cX4_lonelyPersons : ByteArray := prog_6_method_20_code
def yX4_lonelyPersons : MethodName := ⟨RX4, "lonelyPersons", "()I"⟩
abbrev cX4_isLonely : ByteArray := prog_6_method_21_code
def yX4_isLonely : MethodName := ⟨RX4, "isLonely", "(I)Z"⟩
abbrev cX4_aloneWith : ByteArray := prog_6_method_22_code
def yX4_aloneWith : MethodName := ⟨RX4, "aloneWith", "(II)I"⟩
abbrev cX4_roundsTillRest : ByteArray := prog_6_method_23_code
def yX4_roundsTillRest : MethodName := ⟨RX4, "roundsTillRest", "(I)I"⟩
abbrev cX4_goRound : ByteArray := prog_6_method_24_code
def yX4_goRound : MethodName := ⟨RX4, "goRound", "()Z"⟩
abbrev cX4_choiceAlone : ByteArray := prog_6_method_25_code
def yX4_choiceAlone : MethodName := ⟨RX4, "choiceAlone", "(I)I"⟩
abbrev cX4_unmetWithin : ByteArray := prog_6_method_26_code
def yX4_unmetWithin : MethodName := ⟨RX4, "unmetWithin", "(I)I"⟩
abbrev cX4_turnedSet : ByteArray := prog_6_method_27_code
def yX4_turnedSet : MethodName := ⟨RX4, "turnedSet", "(II)I"⟩
abbrev cX4_setsForOneMore : ByteArray := prog_6_method_28_code
def yX4_setsForOneMore : MethodName := ⟨RX4, "setsForOneMore", "(I)I"⟩
def RX5 : String := "DeskDays$Reader"
def TX5 : u_T := fun k => match k with
  | 0 => ("DeskDays$Reader", "text", "[I", true)
  | 1 => ("DeskDays$Reader", "size", "I", false)
  | 2 => ("DeskDays$Reader", "at", "I", false)
  | 3 => ("DeskDays$Reader", "start", "I", false)
  | 4 => ("DeskDays$Reader", "kind", "I", false)
  | 5 => ("DeskDays$Reader", "value", "I", false)
  | 6 => ("DeskDays$Reader", "ownWord", "I", false)
  | 7 => ("DeskDays$Reader", "fault", "I", false)
  | 8 => ("DeskDays$Reader", "place", "I", false)
  | _ => ("DeskDays$Reader", "ownCodes", "[I", true)
def tyX5 : Nat → FieldType := fun k => match k with
  | 0 => .array .int
  | 1 => .int
  | 2 => .int
  | 3 => .int
  | 4 => .int
  | 5 => .int
  | 6 => .int
  | 7 => .int
  | 8 => .int
  | _ => .array .int
abbrev wsX50 : List Cond := u_ws RX5 TX5 10
theorem nmX5 : ∀ a, a < 10 → ∀ b, b < 10 → a ≠ b → (TX5 a).2.1 ≠ (TX5 b).2.1 := by decide +kernel
theorem tyX5_ok : ∀ k, k < 10 → parseFieldDescriptor (TX5 k).2.2.1 = some (tyX5 k) := by decide +kernel
abbrev cX5_init : ByteArray := prog_7_method_1_code
def yX5_init : MethodName := ⟨RX5, "<init>", "([I)V"⟩
abbrev cX5_listOwnWords : ByteArray := prog_7_method_2_code
def yX5_listOwnWords : MethodName := ⟨RX5, "listOwnWords", "()V"⟩
abbrev cX5_withLetter : ByteArray := prog_7_method_3_code
def yX5_withLetter : MethodName := ⟨RX5, "withLetter", "(II)I"⟩
abbrev cX5_begin : ByteArray := prog_7_method_4_code
def yX5_begin : MethodName := ⟨RX5, "begin", "(I)V"⟩
abbrev cX5_isFailed : ByteArray := prog_7_method_5_code
def yX5_isFailed : MethodName := ⟨RX5, "isFailed", "()Z"⟩
abbrev cX5_fail : ByteArray := prog_7_method_6_code
def yX5_fail : MethodName := ⟨RX5, "fail", "(I)V"⟩
abbrev cX5_failAt : ByteArray := prog_7_method_7_code
def yX5_failAt : MethodName := ⟨RX5, "failAt", "(II)V"⟩
abbrev cX5_isOver : ByteArray := prog_7_method_8_code
def yX5_isOver : MethodName := ⟨RX5, "isOver", "()Z"⟩
abbrev cX5_isSign : ByteArray := prog_7_method_9_code
def yX5_isSign : MethodName := ⟨RX5, "isSign", "(I)Z"⟩
abbrev cX5_isNumber : ByteArray := prog_7_method_10_code
def yX5_isNumber : MethodName := ⟨RX5, "isNumber", "()Z"⟩
abbrev cX5_isName : ByteArray := prog_7_method_11_code
def yX5_isName : MethodName := ⟨RX5, "isName", "()Z"⟩
abbrev cX5_takeSign : ByteArray := prog_7_method_12_code
def yX5_takeSign : MethodName := ⟨RX5, "takeSign", "(I)V"⟩
abbrev cX5_takeOwnWord : ByteArray := prog_7_method_13_code
def yX5_takeOwnWord : MethodName := ⟨RX5, "takeOwnWord", "(I)V"⟩
abbrev cX5_take : ByteArray := prog_7_method_14_code
def yX5_take : MethodName := ⟨RX5, "take", "()V"⟩
abbrev cX5_takeLetters : ByteArray := prog_7_method_15_code
def yX5_takeLetters : MethodName := ⟨RX5, "takeLetters", "()V"⟩
abbrev cX5_takeDigits : ByteArray := prog_7_method_16_code
def yX5_takeDigits : MethodName := ⟨RX5, "takeDigits", "()V"⟩
abbrev cX5_isBlank : ByteArray := prog_7_method_17_code
def yX5_isBlank : MethodName := ⟨RX5, "isBlank", "(I)Z"⟩
abbrev cX5_isLetter : ByteArray := prog_7_method_18_code
def yX5_isLetter : MethodName := ⟨RX5, "isLetter", "(I)Z"⟩
abbrev cX5_isDigit : ByteArray := prog_7_method_19_code
def yX5_isDigit : MethodName := ⟨RX5, "isDigit", "(I)Z"⟩
def RX6 : String := "DeskDays$RuleReader"
def TX6 : u_T := fun k => match k with
  | 0 => ("DeskDays$RuleReader", "reader", "LDeskDays$Reader;", true)
  | _ => ("DeskDays$RuleReader", "rules", "LDeskDays$Rules;", false)
def tyX6 : Nat → FieldType := fun k => match k with
  | 0 => .object "DeskDays$Reader"
  | _ => .object "DeskDays$Rules"
abbrev wsX60 : List Cond := u_ws RX6 TX6 2
theorem nmX6 : ∀ a, a < 2 → ∀ b, b < 2 → a ≠ b → (TX6 a).2.1 ≠ (TX6 b).2.1 := by decide +kernel
theorem tyX6_ok : ∀ k, k < 2 → parseFieldDescriptor (TX6 k).2.2.1 = some (tyX6 k) := by decide +kernel
abbrev cX6_init : ByteArray := prog_8_method_1_code
def yX6_init : MethodName := ⟨RX6, "<init>", "(LDeskDays$Reader;LDeskDays$Rules;)V"⟩
abbrev cX6_read : ByteArray := prog_8_method_2_code
def yX6_read : MethodName := ⟨RX6, "read", "(LDeskDays$Rules;)V"⟩
abbrev cX6_readTest : ByteArray := prog_8_method_3_code
def yX6_readTest : MethodName := ⟨RX6, "readTest", "(I)V"⟩
abbrev cX6_readBoth : ByteArray := prog_8_method_4_code
def yX6_readBoth : MethodName := ⟨RX6, "readBoth", "(I)V"⟩
abbrev cX6_readFact : ByteArray := prog_8_method_5_code
def yX6_readFact : MethodName := ⟨RX6, "readFact", "(I)V"⟩
abbrev cX6_takeComparison : ByteArray := prog_8_method_6_code
def yX6_takeComparison : MethodName := ⟨RX6, "takeComparison", "()I"⟩
abbrev cX6_readSum : ByteArray := prog_8_method_7_code
def yX6_readSum : MethodName := ⟨RX6, "readSum", "(I)V"⟩
abbrev cX6_readProduct : ByteArray := prog_8_method_8_code
def yX6_readProduct : MethodName := ⟨RX6, "readProduct", "(I)V"⟩
abbrev cX6_productKind : ByteArray := prog_8_method_9_code
def yX6_productKind : MethodName := ⟨RX6, "productKind", "()I"⟩
abbrev cX6_readPart : ByteArray := prog_8_method_10_code
def yX6_readPart : MethodName := ⟨RX6, "readPart", "(I)V"⟩
abbrev cX6_readPair : ByteArray := prog_8_method_11_code
def yX6_readPair : MethodName := ⟨RX6, "readPair", "(II)V"⟩
abbrev cX6_takeOpening : ByteArray := prog_8_method_12_code
def yX6_takeOpening : MethodName := ⟨RX6, "takeOpening", "(II)Z"⟩
abbrev cX6_addTaken : ByteArray := prog_8_method_13_code
def yX6_addTaken : MethodName := ⟨RX6, "addTaken", "(II)V"⟩
def RX7 : String := "DeskDays$Rules"
def TX7 : u_T := fun k => match k with
  | 0 => ("DeskDays$Rules", "count", "I", false)
  | 1 => ("DeskDays$Rules", "used", "I", false)
  | 2 => ("DeskDays$Rules", "steps", "[I", true)
  | 3 => ("DeskDays$Rules", "sumFrom", "[I", true)
  | 4 => ("DeskDays$Rules", "testFrom", "[I", true)
  | 5 => ("DeskDays$Rules", "testTo", "[I", true)
  | 6 => ("DeskDays$Rules", "facts", "[I", true)
  | _ => ("DeskDays$Rules", "stack", "[I", true)
def tyX7 : Nat → FieldType := fun k => match k with
  | 0 => .int
  | 1 => .int
  | 2 => .array .int
  | 3 => .array .int
  | 4 => .array .int
  | 5 => .array .int
  | 6 => .array .int
  | _ => .array .int
abbrev wsX70 : List Cond := u_ws RX7 TX7 8
theorem nmX7 : ∀ a, a < 8 → ∀ b, b < 8 → a ≠ b → (TX7 a).2.1 ≠ (TX7 b).2.1 := by decide +kernel
theorem tyX7_ok : ∀ k, k < 8 → parseFieldDescriptor (TX7 k).2.2.1 = some (tyX7 k) := by decide +kernel
abbrev cX7_init : ByteArray := prog_9_method_1_code
def yX7_init : MethodName := ⟨RX7, "<init>", "()V"⟩
abbrev cX7_clear : ByteArray := prog_9_method_2_code
def yX7_clear : MethodName := ⟨RX7, "clear", "()V"⟩
abbrev cX7_beginSum : ByteArray := prog_9_method_3_code
def yX7_beginSum : MethodName := ⟨RX7, "beginSum", "()V"⟩
abbrev cX7_beginTest : ByteArray := prog_9_method_4_code
def yX7_beginTest : MethodName := ⟨RX7, "beginTest", "()V"⟩
abbrev cX7_close : ByteArray := prog_9_method_5_code
def yX7_close : MethodName := ⟨RX7, "close", "()V"⟩
abbrev cX7_addStep : ByteArray := prog_9_method_6_code
def yX7_addStep : MethodName := ⟨RX7, "addStep", "(II)V"⟩
abbrev cX7_firstSum : ByteArray := prog_9_method_7_code
def yX7_firstSum : MethodName := ⟨RX7, "firstSum", "(IIIII)I"⟩
abbrev cX7_run : ByteArray := prog_9_method_8_code
def yX7_run : MethodName := ⟨RX7, "run", "(II)I"⟩
abbrev cX7_given : ByteArray := prog_9_method_9_code
def yX7_given : MethodName := ⟨RX7, "given", "(II)I"⟩
abbrev cX7_joined : ByteArray := prog_9_method_10_code
def yX7_joined : MethodName := ⟨RX7, "joined", "(III)I"⟩
abbrev cX7_limited : ByteArray := prog_9_method_11_code
def yX7_limited : MethodName := ⟨RX7, "limited", "(J)I"⟩
def RX8 : String := "DeskDays$Seats"
def TX8 : u_T := fun k => match k with
  | 0 => ("DeskDays$Seats", "plan", "LDeskDays$Plan;", true)
  | 1 => ("DeskDays$Seats", "place", "[I", true)
  | _ => ("DeskDays$Seats", "freeDesks", "[I", true)
def tyX8 : Nat → FieldType := fun k => match k with
  | 0 => .object "DeskDays$Plan"
  | 1 => .array .int
  | _ => .array .int
abbrev wsX80 : List Cond := u_ws RX8 TX8 3
theorem nmX8 : ∀ a, a < 3 → ∀ b, b < 3 → a ≠ b → (TX8 a).2.1 ≠ (TX8 b).2.1 := by decide +kernel
theorem tyX8_ok : ∀ k, k < 3 → parseFieldDescriptor (TX8 k).2.2.1 = some (tyX8 k) := by decide +kernel
abbrev cX8_init : ByteArray := prog_10_method_1_code
def yX8_init : MethodName := ⟨RX8, "<init>", "(LDeskDays$Plan;)V"⟩
abbrev cX8_settle : ByteArray := prog_10_method_2_code
def yX8_settle : MethodName := ⟨RX8, "settle", "(I)V"⟩
abbrev cX8_settleBest : ByteArray := prog_10_method_3_code
def yX8_settleBest : MethodName := ⟨RX8, "settleBest", "(I)V"⟩
abbrev cX8_tiesThere : ByteArray := prog_10_method_4_code
def yX8_tiesThere : MethodName := ⟨RX8, "tiesThere", "(II)I"⟩
abbrev cX8_fitNow : ByteArray := prog_10_method_5_code
def yX8_fitNow : MethodName := ⟨RX8, "fitNow", "()I"⟩
abbrev cX8_exchangeAll : ByteArray := prog_10_method_6_code
def yX8_exchangeAll : MethodName := ⟨RX8, "exchangeAll", "()I"⟩
abbrev cX8_exchangeFirst : ByteArray := prog_10_method_7_code
def yX8_exchangeFirst : MethodName := ⟨RX8, "exchangeFirst", "()Z"⟩
abbrev cX8_isMovable : ByteArray := prog_10_method_8_code
def yX8_isMovable : MethodName := ⟨RX8, "isMovable", "(I)Z"⟩
abbrev cX8_exchange : ByteArray := prog_10_method_9_code
def yX8_exchange : MethodName := ⟨RX8, "exchange", "(II)V"⟩
abbrev cX8_dearestToShut : ByteArray := prog_10_method_10_code
def yX8_dearestToShut : MethodName := ⟨RX8, "dearestToShut", "(I)I"⟩
abbrev cX8_isOwnerIn : ByteArray := prog_10_method_11_code
def yX8_isOwnerIn : MethodName := ⟨RX8, "isOwnerIn", "(II)Z"⟩
def RX9 : String := "DeskDays$Seeker"
def TX9 : u_T := fun k => match k with
  | 0 => ("DeskDays$Seeker", "plan", "LDeskDays$Plan;", true)
  | 1 => ("DeskDays$Seeker", "looked", "I", false)
  | 2 => ("DeskDays$Seeker", "sets", "[I", true)
  | 3 => ("DeskDays$Seeker", "next", "[I", true)
  | _ => ("DeskDays$Seeker", "loads", "[I", true)
def tyX9 : Nat → FieldType := fun k => match k with
  | 0 => .object "DeskDays$Plan"
  | 1 => .int
  | 2 => .array .int
  | 3 => .array .int
  | _ => .array .int
abbrev wsX90 : List Cond := u_ws RX9 TX9 5
theorem nmX9 : ∀ a, a < 5 → ∀ b, b < 5 → a ≠ b → (TX9 a).2.1 ≠ (TX9 b).2.1 := by decide +kernel
theorem tyX9_ok : ∀ k, k < 5 → parseFieldDescriptor (TX9 k).2.2.1 = some (tyX9 k) := by decide +kernel
abbrev cX9_init : ByteArray := prog_11_method_1_code
def yX9_init : MethodName := ⟨RX9, "<init>", "(LDeskDays$Plan;)V"⟩
abbrev cX9_search : ByteArray := prog_11_method_2_code
def yX9_search : MethodName := ⟨RX9, "search", "(I)I"⟩
abbrev cX9_load : ByteArray := prog_11_method_3_code
def yX9_load : MethodName := ⟨RX9, "load", "(II)V"⟩
abbrev cX9_isFitting : ByteArray := prog_11_method_4_code
def yX9_isFitting : MethodName := ⟨RX9, "isFitting", "(II)Z"⟩
abbrev cX9_takeFound : ByteArray := prog_11_method_5_code
def yX9_takeFound : MethodName := ⟨RX9, "takeFound", "()V"⟩
abbrev cX9_fewestDesks : ByteArray := prog_11_method_6_code
def yX9_fewestDesks : MethodName := ⟨RX9, "fewestDesks", "()I"⟩
abbrev cX9_improve : ByteArray := prog_11_method_7_code
def yX9_improve : MethodName := ⟨RX9, "improve", "(I)I"⟩
abbrev cX9_bestOfTwo : ByteArray := prog_11_method_8_code
def yX9_bestOfTwo : MethodName := ⟨RX9, "bestOfTwo", "(II)I"⟩
abbrev cX9_gainOfTrade : ByteArray := prog_11_method_9_code
def yX9_gainOfTrade : MethodName := ⟨RX9, "gainOfTrade", "(II)I"⟩
abbrev cX9_exchange : ByteArray := prog_11_method_10_code
def yX9_exchange : MethodName := ⟨RX9, "exchange", "(II)V"⟩
abbrev cX9_otherSets : ByteArray := prog_11_method_11_code
def yX9_otherSets : MethodName := ⟨RX9, "otherSets", "(I)I"⟩
def RX10 : String := "DeskDays$Statements"
def TX10 : u_T := fun k => match k with
  | 0 => ("DeskDays$Statements", "reader", "LDeskDays$Reader;", true)
  | 1 => ("DeskDays$Statements", "ruleReader", "LDeskDays$RuleReader;", true)
  | 2 => ("DeskDays$Statements", "house", "LDeskDays$House;", false)
  | _ => ("DeskDays$Statements", "count", "I", false)
def tyX10 : Nat → FieldType := fun k => match k with
  | 0 => .object "DeskDays$Reader"
  | 1 => .object "DeskDays$RuleReader"
  | 2 => .object "DeskDays$House"
  | _ => .int
abbrev wsX100 : List Cond := u_ws RX10 TX10 4
theorem nmX10 : ∀ a, a < 4 → ∀ b, b < 4 → a ≠ b → (TX10 a).2.1 ≠ (TX10 b).2.1 := by decide +kernel
theorem tyX10_ok : ∀ k, k < 4 → parseFieldDescriptor (TX10 k).2.2.1 = some (tyX10 k) := by decide +kernel
abbrev cX10_init : ByteArray := prog_12_method_1_code
def yX10_init : MethodName := ⟨RX10, "<init>", "(LDeskDays$Reader;LDeskDays$House;)V"⟩
abbrev cX10_begin : ByteArray := prog_12_method_2_code
def yX10_begin : MethodName := ⟨RX10, "begin", "(LDeskDays$House;I)V"⟩
abbrev cX10_readNext : ByteArray := prog_12_method_3_code
def yX10_readNext : MethodName := ⟨RX10, "readNext", "()V"⟩
abbrev cX10_readFloor : ByteArray := prog_12_method_4_code
def yX10_readFloor : MethodName := ⟨RX10, "readFloor", "()V"⟩
abbrev cX10_readTeam : ByteArray := prog_12_method_5_code
def yX10_readTeam : MethodName := ⟨RX10, "readTeam", "()V"⟩
abbrev cX10_readPerson : ByteArray := prog_12_method_6_code
def yX10_readPerson : MethodName := ⟨RX10, "readPerson", "()V"⟩
abbrev cX10_readCannot : ByteArray := prog_12_method_7_code
def yX10_readCannot : MethodName := ⟨RX10, "readCannot", "()V"⟩
abbrev cX10_readLikes : ByteArray := prog_12_method_8_code
def yX10_readLikes : MethodName := ⟨RX10, "readLikes", "()V"⟩
abbrev cX10_readTie : ByteArray := prog_12_method_9_code
def yX10_readTie : MethodName := ⟨RX10, "readTie", "()V"⟩
abbrev cX10_readComes : ByteArray := prog_12_method_10_code
def yX10_readComes : MethodName := ⟨RX10, "readComes", "()V"⟩
abbrev cX10_readVisit : ByteArray := prog_12_method_11_code
def yX10_readVisit : MethodName := ⟨RX10, "readVisit", "()V"⟩
abbrev cX10_readOwn : ByteArray := prog_12_method_12_code
def yX10_readOwn : MethodName := ⟨RX10, "readOwn", "()V"⟩
abbrev cX10_readMeet : ByteArray := prog_12_method_13_code
def yX10_readMeet : MethodName := ⟨RX10, "readMeet", "()V"⟩
abbrev cX10_readTurns : ByteArray := prog_12_method_14_code
def yX10_readTurns : MethodName := ⟨RX10, "readTurns", "()V"⟩
abbrev cX10_readStand : ByteArray := prog_12_method_15_code
def yX10_readStand : MethodName := ⟨RX10, "readStand", "()V"⟩
abbrev cX10_beginOneOf : ByteArray := prog_12_method_16_code
def yX10_beginOneOf : MethodName := ⟨RX10, "beginOneOf", "(II)V"⟩
abbrev cX10_takeNewName : ByteArray := prog_12_method_17_code
def yX10_takeNewName : MethodName := ⟨RX10, "takeNewName", "()I"⟩
abbrev cX10_askName : ByteArray := prog_12_method_18_code
def yX10_askName : MethodName := ⟨RX10, "askName", "(I)I"⟩
abbrev cX10_askPerson : ByteArray := prog_12_method_19_code
def yX10_askPerson : MethodName := ⟨RX10, "askPerson", "()I"⟩
abbrev cX10_takePerson : ByteArray := prog_12_method_20_code
def yX10_takePerson : MethodName := ⟨RX10, "takePerson", "()I"⟩
abbrev cX10_takeTeam : ByteArray := prog_12_method_21_code
def yX10_takeTeam : MethodName := ⟨RX10, "takeTeam", "()I"⟩
abbrev cX10_takeDay : ByteArray := prog_12_method_22_code
def yX10_takeDay : MethodName := ⟨RX10, "takeDay", "()I"⟩
abbrev cX10_takeNumber : ByteArray := prog_12_method_23_code
def yX10_takeNumber : MethodName := ⟨RX10, "takeNumber", "(I)I"⟩
def RX11 : String := "DeskDays"
def TX11 : u_T := fun k => match k with
  | 0 => ("DeskDays", "tape", "[I", true)
  | 1 => ("DeskDays", "taped", "I", false)
  | 2 => ("DeskDays", "spare", "LDeskDays$House;", false)
  | 3 => ("DeskDays", "statements", "LDeskDays$Statements;", true)
  | 4 => ("DeskDays", "plan", "LDeskDays$Plan;", true)
  | 5 => ("DeskDays", "seeker", "LDeskDays$Seeker;", true)
  | 6 => ("DeskDays", "seats", "LDeskDays$Seats;", true)
  | 7 => ("DeskDays", "chances", "LDeskDays$Chances;", true)
  | 8 => ("DeskDays", "faultKind", "I", false)
  | 9 => ("DeskDays", "faultPlace", "I", false)
  | 10 => ("DeskDays", "seedNow", "J", false)
  | 11 => ("DeskDays", "written", "[I", true)
  | 12 => ("DeskDays", "writtenSize", "I", false)
  | _ => ("DeskDays", "refusals", "[I", true)
def tyX11 : Nat → FieldType := fun k => match k with
  | 0 => .array .int
  | 1 => .int
  | 2 => .object "DeskDays$House"
  | 3 => .object "DeskDays$Statements"
  | 4 => .object "DeskDays$Plan"
  | 5 => .object "DeskDays$Seeker"
  | 6 => .object "DeskDays$Seats"
  | 7 => .object "DeskDays$Chances"
  | 8 => .int
  | 9 => .int
  | 10 => .long
  | 11 => .array .int
  | 12 => .int
  | _ => .array .int
abbrev wsX110 : List Cond := u_ws RX11 TX11 14
theorem nmX11 : ∀ a, a < 14 → ∀ b, b < 14 → a ≠ b → (TX11 a).2.1 ≠ (TX11 b).2.1 := by decide +kernel
theorem tyX11_ok : ∀ k, k < 14 → parseFieldDescriptor (TX11 k).2.2.1 = some (tyX11 k) := by decide +kernel
abbrev cX11_init : ByteArray := prog_1_method_1_code
def yX11_init : MethodName := ⟨RX11, "<init>", "()V"⟩
abbrev cX11_feed : ByteArray := prog_1_method_2_code
def yX11_feed : MethodName := ⟨RX11, "feed", "(IIIII)I"⟩
abbrev cX11_addBytes : ByteArray := prog_1_method_3_code
def yX11_addBytes : MethodName := ⟨RX11, "addBytes", "(I)V"⟩
abbrev cX11_end : ByteArray := prog_1_method_4_code
def yX11_end : MethodName := ⟨RX11, "end", "(I)Z"⟩
abbrev cX11_house : ByteArray := prog_1_method_5_code
def yX11_house : MethodName := ⟨RX11, "house", "()I"⟩
abbrev cX11_fault : ByteArray := prog_1_method_6_code
def yX11_fault : MethodName := ⟨RX11, "fault", "(I)I"⟩
abbrev cX11_has : ByteArray := prog_1_method_7_code
def yX11_has : MethodName := ⟨RX11, "has", "(I)I"⟩
abbrev cX11_letter : ByteArray := prog_1_method_8_code
def yX11_letter : MethodName := ⟨RX11, "letter", "(III)I"⟩
abbrev cX11_letterOf : ByteArray := prog_1_method_9_code
def yX11_letterOf : MethodName := ⟨RX11, "letterOf", "(II)I"⟩
abbrev cX11_person : ByteArray := prog_1_method_10_code
def yX11_person : MethodName := ⟨RX11, "person", "(II)I"⟩
abbrev cX11_floor : ByteArray := prog_1_method_11_code
def yX11_floor : MethodName := ⟨RX11, "floor", "(II)I"⟩
abbrev cX11_put : ByteArray := prog_1_method_12_code
def yX11_put : MethodName := ⟨RX11, "put", "(II)Z"⟩
abbrev cX11_row : ByteArray := prog_1_method_13_code
def yX11_row : MethodName := ⟨RX11, "row", "()Z"⟩
abbrev cX11_areSets : ByteArray := prog_1_method_14_code
def yX11_areSets : MethodName := ⟨RX11, "areSets", "(I)Z"⟩
abbrev cX11_takeSets : ByteArray := prog_1_method_15_code
def yX11_takeSets : MethodName := ⟨RX11, "takeSets", "(I)V"⟩
abbrev cX11_day : ByteArray := prog_1_method_16_code
def yX11_day : MethodName := ⟨RX11, "day", "(II)I"⟩
abbrev cX11_met : ByteArray := prog_1_method_17_code
def yX11_met : MethodName := ⟨RX11, "met", "(I)I"⟩
abbrev cX11_judge : ByteArray := prog_1_method_18_code
def yX11_judge : MethodName := ⟨RX11, "judge", "(I)I"⟩
abbrev cX11_worth : ByteArray := prog_1_method_19_code
def yX11_worth : MethodName := ⟨RX11, "worth", "()I"⟩
abbrev cX11_seek : ByteArray := prog_1_method_20_code
def yX11_seek : MethodName := ⟨RX11, "seek", "()I"⟩
abbrev cX11_spent : ByteArray := prog_1_method_21_code
def yX11_spent : MethodName := ⟨RX11, "spent", "()I"⟩
abbrev cX11_fewest : ByteArray := prog_1_method_22_code
def yX11_fewest : MethodName := ⟨RX11, "fewest", "()I"⟩
abbrev cX11_better : ByteArray := prog_1_method_23_code
def yX11_better : MethodName := ⟨RX11, "better", "(I)I"⟩
abbrev cX11_both : ByteArray := prog_1_method_24_code
def yX11_both : MethodName := ⟨RX11, "both", "(II)I"⟩
abbrev cX11_trade : ByteArray := prog_1_method_25_code
def yX11_trade : MethodName := ⟨RX11, "trade", "(II)I"⟩
abbrev cX11_should : ByteArray := prog_1_method_26_code
def yX11_should : MethodName := ⟨RX11, "should", "(I)I"⟩
abbrev cX11_bound : ByteArray := prog_1_method_27_code
def yX11_bound : MethodName := ⟨RX11, "bound", "(Z)I"⟩
abbrev cX11_likely : ByteArray := prog_1_method_28_code
def yX11_likely : MethodName := ⟨RX11, "likely", "(II)J"⟩
abbrev cX11_enough : ByteArray := prog_1_method_29_code
def yX11_enough : MethodName := ⟨RX11, "enough", "(II)I"⟩
abbrev cX11_over : ByteArray := prog_1_method_30_code
def yX11_over : MethodName := ⟨RX11, "over", "(III)I"⟩
abbrev cX11_stairs : ByteArray := prog_1_method_31_code
def yX11_stairs : MethodName := ⟨RX11, "stairs", "(I)J"⟩
abbrev cX11_draw : ByteArray := prog_1_method_32_code
def yX11_draw : MethodName := ⟨RX11, "draw", "(I)I"⟩
abbrev cX11_drawComer : ByteArray := prog_1_method_33_code
def yX11_drawComer : MethodName := ⟨RX11, "drawComer", "(I)I"⟩
abbrev cX11_seed : ByteArray := prog_1_method_34_code
def yX11_seed : MethodName := ⟨RX11, "seed", "(I)Z"⟩
abbrev cX11_alone : ByteArray := prog_1_method_35_code
def yX11_alone : MethodName := ⟨RX11, "alone", "(I)I"⟩
abbrev cX11_free : ByteArray := prog_1_method_36_code
def yX11_free : MethodName := ⟨RX11, "free", "(I)I"⟩
abbrev cX11_seat : ByteArray := prog_1_method_37_code
def yX11_seat : MethodName := ⟨RX11, "seat", "(II)I"⟩
abbrev cX11_fit : ByteArray := prog_1_method_38_code
def yX11_fit : MethodName := ⟨RX11, "fit", "(II)I"⟩
abbrev cX11_shut : ByteArray := prog_1_method_39_code
def yX11_shut : MethodName := ⟨RX11, "shut", "(I)I"⟩
abbrev cX11_never : ByteArray := prog_1_method_40_code
def yX11_never : MethodName := ⟨RX11, "never", "(I)I"⟩
abbrev cX11_weeks : ByteArray := prog_1_method_41_code
def yX11_weeks : MethodName := ⟨RX11, "weeks", "()I"⟩
abbrev cX11_grow : ByteArray := prog_1_method_42_code
def yX11_grow : MethodName := ⟨RX11, "grow", "(I)I"⟩
abbrev cX11_move : ByteArray := prog_1_method_43_code
def yX11_move : MethodName := ⟨RX11, "move", "(I)I"⟩
abbrev cX11_image : ByteArray := prog_1_method_44_code
def yX11_image : MethodName := ⟨RX11, "image", "()I"⟩
abbrev cX11_checkByte : ByteArray := prog_1_method_45_code
def yX11_checkByte : MethodName := ⟨RX11, "checkByte", "([II)I"⟩
abbrev cX11_octet : ByteArray := prog_1_method_46_code
def yX11_octet : MethodName := ⟨RX11, "octet", "(I)I"⟩
abbrev cX11_on : ByteArray := prog_1_method_47_code
def yX11_on : MethodName := ⟨RX11, "on", "()Z"⟩
abbrev cX11_isImage : ByteArray := prog_1_method_48_code
def yX11_isImage : MethodName := ⟨RX11, "isImage", "()Z"⟩
abbrev cX11_status : ByteArray := prog_1_method_49_code
def yX11_status : MethodName := ⟨RX11, "status", "(I)I"⟩
abbrev cX11_refuse : ByteArray := prog_1_method_50_code
def yX11_refuse : MethodName := ⟨RX11, "refuse", "(I)I"⟩
abbrev cX11_isBelow : ByteArray := prog_1_method_51_code
def yX11_isBelow : MethodName := ⟨RX11, "isBelow", "(II)Z"⟩
abbrev cX11_isDay : ByteArray := prog_1_method_52_code
def yX11_isDay : MethodName := ⟨RX11, "isDay", "(I)Z"⟩
abbrev cX11_isPart : ByteArray := prog_1_method_53_code
def yX11_isPart : MethodName := ⟨RX11, "isPart", "(I)Z"⟩
abbrev cX11_isPerson : ByteArray := prog_1_method_54_code
def yX11_isPerson : MethodName := ⟨RX11, "isPerson", "(I)Z"⟩
abbrev cX11_areTwo : ByteArray := prog_1_method_55_code
def yX11_areTwo : MethodName := ⟨RX11, "areTwo", "(II)Z"⟩
def RX12 : String := "DeskDaysModel"
def TX12 : u_T := fun k => match k with
  | 0 => ("DeskDaysModel", "tape", "[I", true)
  | 1 => ("DeskDaysModel", "taped", "I", false)
  | 2 => ("DeskDaysModel", "size", "I", false)
  | 3 => ("DeskDaysModel", "sign", "I", false)
  | 4 => ("DeskDaysModel", "signAt", "I", false)
  | 5 => ("DeskDaysModel", "signEnd", "I", false)
  | 6 => ("DeskDaysModel", "value", "I", false)
  | 7 => ("DeskDaysModel", "word", "J", false)
  | 8 => ("DeskDaysModel", "faultKind", "I", false)
  | 9 => ("DeskDaysModel", "faultPlace", "I", false)
  | 10 => ("DeskDaysModel", "toldKind", "I", false)
  | 11 => ("DeskDaysModel", "toldPlace", "I", false)
  | 12 => ("DeskDaysModel", "bank", "I", false)
  | 13 => ("DeskDaysModel", "floors", "[I", true)
  | 14 => ("DeskDaysModel", "floorName", "[J", true)
  | 15 => ("DeskDaysModel", "desks", "[I", true)
  | 16 => ("DeskDaysModel", "noise", "[I", true)
  | 17 => ("DeskDaysModel", "costs", "[I", true)
  | 18 => ("DeskDaysModel", "teams", "[I", true)
  | 19 => ("DeskDaysModel", "teamName", "[J", true)
  | 20 => ("DeskDaysModel", "mustMeet", "[Z", true)
  | 21 => ("DeskDaysModel", "persons", "[I", true)
  | 22 => ("DeskDaysModel", "personName", "[J", true)
  | 23 => ("DeskDaysModel", "teamOf", "[I", true)
  | 24 => ("DeskDaysModel", "daysOf", "[I", true)
  | 25 => ("DeskDaysModel", "cannot", "[I", true)
  | 26 => ("DeskDaysModel", "likes", "[I", true)
  | 27 => ("DeskDaysModel", "comes", "[I", true)
  | 28 => ("DeskDaysModel", "ownFloor", "[I", true)
  | 29 => ("DeskDaysModel", "turns", "[I", true)
  | 30 => ("DeskDaysModel", "ties", "[I", true)
  | 31 => ("DeskDaysModel", "tieOne", "[I", true)
  | 32 => ("DeskDaysModel", "tieTwo", "[I", true)
  | 33 => ("DeskDaysModel", "tieWorth", "[I", true)
  | 34 => ("DeskDaysModel", "visitors", "[I", true)
  | 35 => ("DeskDaysModel", "visitChance", "[I", true)
  | 36 => ("DeskDaysModel", "stand", "[I", true)
  | 37 => ("DeskDaysModel", "rules", "[I", true)
  | 38 => ("DeskDaysModel", "sumFrom", "[I", true)
  | 39 => ("DeskDaysModel", "testFrom", "[I", true)
  | 40 => ("DeskDaysModel", "testTo", "[I", true)
  | 41 => ("DeskDaysModel", "codeSort", "[I", true)
  | 42 => ("DeskDaysModel", "codeValue", "[I", true)
  | 43 => ("DeskDaysModel", "codes", "I", false)
  | 44 => ("DeskDaysModel", "in", "I", false)
  | 45 => ("DeskDaysModel", "frame", "[I", true)
  | 46 => ("DeskDaysModel", "phase", "[I", true)
  | 47 => ("DeskDaysModel", "begins", "[Z", true)
  | 48 => ("DeskDaysModel", "pair", "[I", true)
  | 49 => ("DeskDaysModel", "base", "[I", true)
  | 50 => ("DeskDaysModel", "deep", "I", false)
  | 51 => ("DeskDaysModel", "open", "I", false)
  | 52 => ("DeskDaysModel", "ops", "[I", true)
  | 53 => ("DeskDaysModel", "opMany", "I", false)
  | 54 => ("DeskDaysModel", "operand", "Z", false)
  | 55 => ("DeskDaysModel", "refused", "[I", true)
  | 56 => ("DeskDaysModel", "heap", "[J", true)
  | 57 => ("DeskDaysModel", "moment", "[I", true)
  | 58 => ("DeskDaysModel", "plan", "[I", true)
  | 59 => ("DeskDaysModel", "wrongKind", "I", false)
  | 60 => ("DeskDaysModel", "wrongOne", "I", false)
  | 61 => ("DeskDaysModel", "wrongDay", "I", false)
  | 62 => ("DeskDaysModel", "looked", "I", false)
  | 63 => ("DeskDaysModel", "tried", "[I", true)
  | 64 => ("DeskDaysModel", "leftTries", "I", false)
  | 65 => ("DeskDaysModel", "many12", "[J", true)
  | 66 => ("DeskDaysModel", "seed", "J", false)
  | 67 => ("DeskDaysModel", "seat", "[I", true)
  | 68 => ("DeskDaysModel", "out", "[I", true)
  | _ => ("DeskDaysModel", "outs", "I", false)
def tyX12 : Nat → FieldType := fun k => match k with
  | 0 => .array .int
  | 1 => .int
  | 2 => .int
  | 3 => .int
  | 4 => .int
  | 5 => .int
  | 6 => .int
  | 7 => .long
  | 8 => .int
  | 9 => .int
  | 10 => .int
  | 11 => .int
  | 12 => .int
  | 13 => .array .int
  | 14 => .array .long
  | 15 => .array .int
  | 16 => .array .int
  | 17 => .array .int
  | 18 => .array .int
  | 19 => .array .long
  | 20 => .array .boolean
  | 21 => .array .int
  | 22 => .array .long
  | 23 => .array .int
  | 24 => .array .int
  | 25 => .array .int
  | 26 => .array .int
  | 27 => .array .int
  | 28 => .array .int
  | 29 => .array .int
  | 30 => .array .int
  | 31 => .array .int
  | 32 => .array .int
  | 33 => .array .int
  | 34 => .array .int
  | 35 => .array .int
  | 36 => .array .int
  | 37 => .array .int
  | 38 => .array .int
  | 39 => .array .int
  | 40 => .array .int
  | 41 => .array .int
  | 42 => .array .int
  | 43 => .int
  | 44 => .int
  | 45 => .array .int
  | 46 => .array .int
  | 47 => .array .boolean
  | 48 => .array .int
  | 49 => .array .int
  | 50 => .int
  | 51 => .int
  | 52 => .array .int
  | 53 => .int
  | 54 => .boolean
  | 55 => .array .int
  | 56 => .array .long
  | 57 => .array .int
  | 58 => .array .int
  | 59 => .int
  | 60 => .int
  | 61 => .int
  | 62 => .int
  | 63 => .array .int
  | 64 => .int
  | 65 => .array .long
  | 66 => .long
  | 67 => .array .int
  | 68 => .array .int
  | _ => .int
abbrev wsX120 : List Cond := u_ws RX12 TX12 70
theorem nmX12 : ∀ a, a < 70 → ∀ b, b < 70 → a ≠ b → (TX12 a).2.1 ≠ (TX12 b).2.1 := by decide +kernel
theorem tyX12_ok : ∀ k, k < 70 → parseFieldDescriptor (TX12 k).2.2.1 = some (tyX12 k) := by decide +kernel
abbrev cX12_init : ByteArray := prog_14_method_1_code
def yX12_init : MethodName := ⟨RX12, "<init>", "()V"⟩
abbrev cX12_is : ByteArray := prog_14_method_2_code
def yX12_is : MethodName := ⟨RX12, "is", "(III)Z"⟩
abbrev cX12_put : ByteArray := prog_14_method_3_code
def yX12_put : MethodName := ⟨RX12, "put", "(I)V"⟩
abbrev cX12_feed : ByteArray := prog_14_method_4_code
def yX12_feed : MethodName := ⟨RX12, "feed", "(IIIII)I"⟩
abbrev cX12_end : ByteArray := prog_14_method_5_code
def yX12_end : MethodName := ⟨RX12, "end", "(I)Z"⟩
abbrev cX12_blame : ByteArray := prog_14_method_6_code
def yX12_blame : MethodName := ⟨RX12, "blame", "(II)V"⟩
abbrev cX12_isLetter : ByteArray := prog_14_method_7_code
def yX12_isLetter : MethodName := ⟨RX12, "isLetter", "(I)Z"⟩
abbrev cX12_isDigit : ByteArray := prog_14_method_8_code
def yX12_isDigit : MethodName := ⟨RX12, "isDigit", "(I)Z"⟩
abbrev cX12_ahead : ByteArray := prog_14_method_9_code
def yX12_ahead : MethodName := ⟨RX12, "ahead", "()V"⟩
abbrev cX12_isSign : ByteArray := prog_14_method_10_code
def yX12_isSign : MethodName := ⟨RX12, "isSign", "(I)Z"⟩
abbrev cX12_isWord : ByteArray := prog_14_method_11_code
def yX12_isWord : MethodName := ⟨RX12, "isWord", "(J)Z"⟩
abbrev cX12_must : ByteArray := prog_14_method_12_code
def yX12_must : MethodName := ⟨RX12, "must", "(I)V"⟩
abbrev cX12_isOwn : ByteArray := prog_14_method_13_code
def yX12_isOwn : MethodName := ⟨RX12, "isOwn", "(J)Z"⟩
abbrev cX12_named : ByteArray := prog_14_method_14_code
def yX12_named : MethodName := ⟨RX12, "named", "(IJ)I"⟩
abbrev cX12_number : ByteArray := prog_14_method_15_code
def yX12_number : MethodName := ⟨RX12, "number", "(II)I"⟩
abbrev cX12_add : ByteArray := prog_14_method_16_code
def yX12_add : MethodName := ⟨RX12, "add", "(II)V"⟩
abbrev cX12_rank : ByteArray := prog_14_method_17_code
def yX12_rank : MethodName := ⟨RX12, "rank", "(I)I"⟩
abbrev cX12_joins : ByteArray := prog_14_method_18_code
def yX12_joins : MethodName := ⟨RX12, "joins", "(I)V"⟩
abbrev cX12_holdsBack : ByteArray := prog_14_method_19_code
def yX12_holdsBack : MethodName := ⟨RX12, "holdsBack", "(I)V"⟩
abbrev cX12_pushes : ByteArray := prog_14_method_20_code
def yX12_pushes : MethodName := ⟨RX12, "pushes", "(I)V"⟩
abbrev cX12_opens : ByteArray := prog_14_method_21_code
def yX12_opens : MethodName := ⟨RX12, "opens", "(I)V"⟩
abbrev cX12_isTest : ByteArray := prog_14_method_22_code
def yX12_isTest : MethodName := ⟨RX12, "isTest", "(I)Z"⟩
abbrev cX12_operand : ByteArray := prog_14_method_23_code
def yX12_operand : MethodName := ⟨RX12, "operand", "()Z"⟩
abbrev cX12_goesOn : ByteArray := prog_14_method_24_code
def yX12_goesOn : MethodName := ⟨RX12, "goesOn", "()Z"⟩
abbrev cX12_reads : ByteArray := prog_14_method_25_code
def yX12_reads : MethodName := ⟨RX12, "reads", "(Z)V"⟩
abbrev cX12_counts : ByteArray := prog_14_method_26_code
def yX12_counts : MethodName := ⟨RX12, "counts", "(Z)Z"⟩
abbrev cX12_must_ : ByteArray := prog_14_method_27_code
def yX12_must_ : MethodName := ⟨RX12, "must", "(J)V"⟩
abbrev cX12_fresh : ByteArray := prog_14_method_28_code
def yX12_fresh : MethodName := ⟨RX12, "fresh", "()J"⟩
abbrev cX12_asked : ByteArray := prog_14_method_29_code
def yX12_asked : MethodName := ⟨RX12, "asked", "(I)I"⟩
abbrev cX12_floor : ByteArray := prog_14_method_30_code
def yX12_floor : MethodName := ⟨RX12, "floor", "()V"⟩
abbrev cX12_team : ByteArray := prog_14_method_31_code
def yX12_team : MethodName := ⟨RX12, "team", "()V"⟩
abbrev cX12_person : ByteArray := prog_14_method_32_code
def yX12_person : MethodName := ⟨RX12, "person", "()V"⟩
abbrev cX12_dayHere : ByteArray := prog_14_method_33_code
def yX12_dayHere : MethodName := ⟨RX12, "dayHere", "()I"⟩
abbrev cX12_cannots : ByteArray := prog_14_method_34_code
def yX12_cannots : MethodName := ⟨RX12, "cannots", "()V"⟩
abbrev cX12_liking : ByteArray := prog_14_method_35_code
def yX12_liking : MethodName := ⟨RX12, "liking", "()V"⟩
abbrev cX12_tie : ByteArray := prog_14_method_36_code
def yX12_tie : MethodName := ⟨RX12, "tie", "()V"⟩
abbrev cX12_coming : ByteArray := prog_14_method_37_code
def yX12_coming : MethodName := ⟨RX12, "coming", "()V"⟩
abbrev cX12_visit : ByteArray := prog_14_method_38_code
def yX12_visit : MethodName := ⟨RX12, "visit", "()V"⟩
abbrev cX12_ownedOn : ByteArray := prog_14_method_39_code
def yX12_ownedOn : MethodName := ⟨RX12, "ownedOn", "(II)I"⟩
abbrev cX12_owns : ByteArray := prog_14_method_40_code
def yX12_owns : MethodName := ⟨RX12, "owns", "()V"⟩
abbrev cX12_meeting : ByteArray := prog_14_method_41_code
def yX12_meeting : MethodName := ⟨RX12, "meeting", "()V"⟩
abbrev cX12_turning : ByteArray := prog_14_method_42_code
def yX12_turning : MethodName := ⟨RX12, "turning", "()V"⟩
abbrev cX12_standing : ByteArray := prog_14_method_43_code
def yX12_standing : MethodName := ⟨RX12, "standing", "()V"⟩
abbrev cX12_rule : ByteArray := prog_14_method_44_code
def yX12_rule : MethodName := ⟨RX12, "rule", "()V"⟩
abbrev cX12_statement : ByteArray := prog_14_method_45_code
def yX12_statement : MethodName := ⟨RX12, "statement", "()V"⟩
abbrev cX12_others : ByteArray := prog_14_method_46_code
def yX12_others : MethodName := ⟨RX12, "others", "()V"⟩
abbrev cX12_house : ByteArray := prog_14_method_47_code
def yX12_house : MethodName := ⟨RX12, "house", "()I"⟩
abbrev cX12_fault : ByteArray := prog_14_method_48_code
def yX12_fault : MethodName := ⟨RX12, "fault", "(I)I"⟩
abbrev cX12_refuses : ByteArray := prog_14_method_49_code
def yX12_refuses : MethodName := ⟨RX12, "refuses", "(I)I"⟩
abbrev cX12_status : ByteArray := prog_14_method_50_code
def yX12_status : MethodName := ⟨RX12, "status", "(I)I"⟩
abbrev cX12_bounded : ByteArray := prog_14_method_51_code
def yX12_bounded : MethodName := ⟨RX12, "bounded", "(J)J"⟩
abbrev cX12_over : ByteArray := prog_14_method_52_code
def yX12_over : MethodName := ⟨RX12, "over", "(JJ)J"⟩
abbrev cX12_made : ByteArray := prog_14_method_53_code
def yX12_made : MethodName := ⟨RX12, "made", "(IJJ)J"⟩
abbrev cX12_works : ByteArray := prog_14_method_54_code
def yX12_works : MethodName := ⟨RX12, "works", "(II)J"⟩
abbrev cX12_isPerson : ByteArray := prog_14_method_55_code
def yX12_isPerson : MethodName := ⟨RX12, "isPerson", "(I)Z"⟩
abbrev cX12_isDay : ByteArray := prog_14_method_56_code
def yX12_isDay : MethodName := ⟨RX12, "isDay", "(I)Z"⟩
abbrev cX12_desksAll : ByteArray := prog_14_method_57_code
def yX12_desksAll : MethodName := ⟨RX12, "desksAll", "()I"⟩
abbrev cX12_floorOf : ByteArray := prog_14_method_58_code
def yX12_floorOf : MethodName := ⟨RX12, "floorOf", "(I)I"⟩
abbrev cX12_ownedAll : ByteArray := prog_14_method_59_code
def yX12_ownedAll : MethodName := ⟨RX12, "ownedAll", "()I"⟩
abbrev cX12_spare : ByteArray := prog_14_method_60_code
def yX12_spare : MethodName := ⟨RX12, "spare", "()I"⟩
abbrev cX12_has : ByteArray := prog_14_method_61_code
def yX12_has : MethodName := ⟨RX12, "has", "(I)I"⟩
abbrev cX12_letterOf : ByteArray := prog_14_method_62_code
def yX12_letterOf : MethodName := ⟨RX12, "letterOf", "(JI)I"⟩
abbrev cX12_letter : ByteArray := prog_14_method_63_code
def yX12_letter : MethodName := ⟨RX12, "letter", "(III)I"⟩
abbrev cX12_bitsOf : ByteArray := prog_14_method_64_code
def yX12_bitsOf : MethodName := ⟨RX12, "bitsOf", "(I)I"⟩
abbrev cX12_suits : ByteArray := prog_14_method_65_code
def yX12_suits : MethodName := ⟨RX12, "suits", "(II)Z"⟩
abbrev cX12_suiting : ByteArray := prog_14_method_66_code
def yX12_suiting : MethodName := ⟨RX12, "suiting", "(I)I"⟩
abbrev cX12_isIn : ByteArray := prog_14_method_67_code
def yX12_isIn : MethodName := ⟨RX12, "isIn", "(II)Z"⟩
abbrev cX12_person_ : ByteArray := prog_14_method_68_code
def yX12_person_ : MethodName := ⟨RX12, "person", "(II)I"⟩
abbrev cX12_floor_ : ByteArray := prog_14_method_69_code
def yX12_floor_ : MethodName := ⟨RX12, "floor", "(II)I"⟩
abbrev cX12_put_ : ByteArray := prog_14_method_70_code
def yX12_put_ : MethodName := ⟨RX12, "put", "(II)Z"⟩
abbrev cX12_row : ByteArray := prog_14_method_71_code
def yX12_row : MethodName := ⟨RX12, "row", "()Z"⟩
abbrev cX12_inOn : ByteArray := prog_14_method_72_code
def yX12_inOn : MethodName := ⟨RX12, "inOn", "(I)I"⟩
abbrev cX12_othersOn : ByteArray := prog_14_method_73_code
def yX12_othersOn : MethodName := ⟨RX12, "othersOn", "(I)I"⟩
abbrev cX12_standOn : ByteArray := prog_14_method_74_code
def yX12_standOn : MethodName := ⟨RX12, "standOn", "(I)I"⟩
abbrev cX12_day : ByteArray := prog_14_method_75_code
def yX12_day : MethodName := ⟨RX12, "day", "(II)I"⟩
abbrev cX12_metOn : ByteArray := prog_14_method_76_code
def yX12_metOn : MethodName := ⟨RX12, "metOn", "(I)I"⟩
abbrev cX12_met : ByteArray := prog_14_method_77_code
def yX12_met : MethodName := ⟨RX12, "met", "(I)I"⟩
abbrev cX12_wrong : ByteArray := prog_14_method_78_code
def yX12_wrong : MethodName := ⟨RX12, "wrong", "(III)V"⟩
abbrev cX12_together : ByteArray := prog_14_method_79_code
def yX12_together : MethodName := ⟨RX12, "together", "(I)I"⟩
abbrev cX12_holds : ByteArray := prog_14_method_80_code
def yX12_holds : MethodName := ⟨RX12, "holds", "()Z"⟩
abbrev cX12_judge : ByteArray := prog_14_method_81_code
def yX12_judge : MethodName := ⟨RX12, "judge", "(I)I"⟩
abbrev cX12_ruled : ByteArray := prog_14_method_82_code
def yX12_ruled : MethodName := ⟨RX12, "ruled", "(II)I"⟩
abbrev cX12_tied : ByteArray := prog_14_method_83_code
def yX12_tied : MethodName := ⟨RX12, "tied", "()I"⟩
abbrev cX12_worth : ByteArray := prog_14_method_84_code
def yX12_worth : MethodName := ⟨RX12, "worth", "()I"⟩
abbrev cX12_isLastOf : ByteArray := prog_14_method_85_code
def yX12_isLastOf : MethodName := ⟨RX12, "isLastOf", "(I)Z"⟩
abbrev cX12_triedOn : ByteArray := prog_14_method_86_code
def yX12_triedOn : MethodName := ⟨RX12, "triedOn", "(II)I"⟩
abbrev cX12_may : ByteArray := prog_14_method_87_code
def yX12_may : MethodName := ⟨RX12, "may", "(II)Z"⟩
abbrev cX12_sought : ByteArray := prog_14_method_88_code
def yX12_sought : MethodName := ⟨RX12, "sought", "(I)I"⟩
abbrev cX12_seek : ByteArray := prog_14_method_89_code
def yX12_seek : MethodName := ⟨RX12, "seek", "()I"⟩
abbrev cX12_spent : ByteArray := prog_14_method_90_code
def yX12_spent : MethodName := ⟨RX12, "spent", "()I"⟩
abbrev cX12_fewest : ByteArray := prog_14_method_91_code
def yX12_fewest : MethodName := ⟨RX12, "fewest", "()I"⟩
abbrev cX12_betters : ByteArray := prog_14_method_92_code
def yX12_betters : MethodName := ⟨RX12, "betters", "(I)Z"⟩
abbrev cX12_better : ByteArray := prog_14_method_93_code
def yX12_better : MethodName := ⟨RX12, "better", "(I)I"⟩
abbrev cX12_both : ByteArray := prog_14_method_94_code
def yX12_both : MethodName := ⟨RX12, "both", "(II)I"⟩
abbrev cX12_trade : ByteArray := prog_14_method_95_code
def yX12_trade : MethodName := ⟨RX12, "trade", "(II)I"⟩
abbrev cX12_isLonely : ByteArray := prog_14_method_96_code
def yX12_isLonely : MethodName := ⟨RX12, "isLonely", "(I)Z"⟩
abbrev cX12_should : ByteArray := prog_14_method_97_code
def yX12_should : MethodName := ⟨RX12, "should", "(I)I"⟩
abbrev cX12_least : ByteArray := prog_14_method_98_code
def yX12_least : MethodName := ⟨RX12, "least", "(II)I"⟩
abbrev cX12_bound : ByteArray := prog_14_method_99_code
def yX12_bound : MethodName := ⟨RX12, "bound", "(Z)I"⟩
abbrev cX12_nobody : ByteArray := prog_14_method_100_code
def yX12_nobody : MethodName := ⟨RX12, "nobody", "()V"⟩
abbrev cX12_oneMore : ByteArray := prog_14_method_101_code
def yX12_oneMore : MethodName := ⟨RX12, "oneMore", "(I)V"⟩
abbrev cX12_above : ByteArray := prog_14_method_102_code
def yX12_above : MethodName := ⟨RX12, "above", "(I)J"⟩
abbrev cX12_comers : ByteArray := prog_14_method_103_code
def yX12_comers : MethodName := ⟨RX12, "comers", "(I)V"⟩
abbrev cX12_likely : ByteArray := prog_14_method_104_code
def yX12_likely : MethodName := ⟨RX12, "likely", "(II)J"⟩
abbrev cX12_stairs : ByteArray := prog_14_method_105_code
def yX12_stairs : MethodName := ⟨RX12, "stairs", "(I)J"⟩
abbrev cX12_enough : ByteArray := prog_14_method_106_code
def yX12_enough : MethodName := ⟨RX12, "enough", "(II)I"⟩
abbrev cX12_over_ : ByteArray := prog_14_method_107_code
def yX12_over_ : MethodName := ⟨RX12, "over", "(III)I"⟩
abbrev cX12_drawn : ByteArray := prog_14_method_108_code
def yX12_drawn : MethodName := ⟨RX12, "drawn", "(I)I"⟩
abbrev cX12_draw : ByteArray := prog_14_method_109_code
def yX12_draw : MethodName := ⟨RX12, "draw", "(I)I"⟩
abbrev cX12_seed : ByteArray := prog_14_method_110_code
def yX12_seed : MethodName := ⟨RX12, "seed", "(I)Z"⟩
abbrev cX12_aloneOf : ByteArray := prog_14_method_111_code
def yX12_aloneOf : MethodName := ⟨RX12, "aloneOf", "(II)I"⟩
abbrev cX12_alone : ByteArray := prog_14_method_112_code
def yX12_alone : MethodName := ⟨RX12, "alone", "(I)I"⟩
abbrev cX12_round : ByteArray := prog_14_method_113_code
def yX12_round : MethodName := ⟨RX12, "round", "()Z"⟩
abbrev cX12_free : ByteArray := prog_14_method_114_code
def yX12_free : MethodName := ⟨RX12, "free", "(I)I"⟩
abbrev cX12_sitting : ByteArray := prog_14_method_115_code
def yX12_sitting : MethodName := ⟨RX12, "sitting", "(IZ)I"⟩
abbrev cX12_tiesWith : ByteArray := prog_14_method_116_code
def yX12_tiesWith : MethodName := ⟨RX12, "tiesWith", "(II)I"⟩
abbrev cX12_seats : ByteArray := prog_14_method_117_code
def yX12_seats : MethodName := ⟨RX12, "seats", "(I)V"⟩
abbrev cX12_fitOf : ByteArray := prog_14_method_118_code
def yX12_fitOf : MethodName := ⟨RX12, "fitOf", "()I"⟩
abbrev cX12_isMovable : ByteArray := prog_14_method_119_code
def yX12_isMovable : MethodName := ⟨RX12, "isMovable", "(I)Z"⟩
abbrev cX12_change : ByteArray := prog_14_method_120_code
def yX12_change : MethodName := ⟨RX12, "change", "(II)V"⟩
abbrev cX12_exchanges : ByteArray := prog_14_method_121_code
def yX12_exchanges : MethodName := ⟨RX12, "exchanges", "()Z"⟩
abbrev cX12_exchanged : ByteArray := prog_14_method_122_code
def yX12_exchanged : MethodName := ⟨RX12, "exchanged", "()I"⟩
abbrev cX12_seat : ByteArray := prog_14_method_123_code
def yX12_seat : MethodName := ⟨RX12, "seat", "(II)I"⟩
abbrev cX12_fit : ByteArray := prog_14_method_124_code
def yX12_fit : MethodName := ⟨RX12, "fit", "(II)I"⟩
abbrev cX12_ownerIn : ByteArray := prog_14_method_125_code
def yX12_ownerIn : MethodName := ⟨RX12, "ownerIn", "(II)Z"⟩
abbrev cX12_shut : ByteArray := prog_14_method_126_code
def yX12_shut : MethodName := ⟨RX12, "shut", "(I)I"⟩
abbrev cX12_turned : ByteArray := prog_14_method_127_code
def yX12_turned : MethodName := ⟨RX12, "turned", "(II)I"⟩
abbrev cX12_neverIn : ByteArray := prog_14_method_128_code
def yX12_neverIn : MethodName := ⟨RX12, "neverIn", "(I)I"⟩
abbrev cX12_never : ByteArray := prog_14_method_129_code
def yX12_never : MethodName := ⟨RX12, "never", "(I)I"⟩
abbrev cX12_weeks : ByteArray := prog_14_method_130_code
def yX12_weeks : MethodName := ⟨RX12, "weeks", "()I"⟩
abbrev cX12_grow : ByteArray := prog_14_method_131_code
def yX12_grow : MethodName := ⟨RX12, "grow", "(I)I"⟩
abbrev cX12_move : ByteArray := prog_14_method_132_code
def yX12_move : MethodName := ⟨RX12, "move", "(I)I"⟩
abbrev cX12_writes : ByteArray := prog_14_method_133_code
def yX12_writes : MethodName := ⟨RX12, "writes", "(I)V"⟩
abbrev cX12_image : ByteArray := prog_14_method_134_code
def yX12_image : MethodName := ⟨RX12, "image", "()I"⟩
abbrev cX12_octet : ByteArray := prog_14_method_135_code
def yX12_octet : MethodName := ⟨RX12, "octet", "(I)I"⟩
abbrev cX12_on : ByteArray := prog_14_method_136_code
def yX12_on : MethodName := ⟨RX12, "on", "()Z"⟩
def RJx145de : String := "java/io/Serializable"
def TJx145de : u_T := fun k => match k with
  | _ => ("", "", "", false)
def tyJx145de : Nat → FieldType := fun k => match k with
  | _ => .int
abbrev wsJx145de0 : List Cond := u_ws RJx145de TJx145de 0
theorem nmJx145de : ∀ a, a < 0 → ∀ b, b < 0 → a ≠ b → (TJx145de a).2.1 ≠ (TJx145de b).2.1 := by decide +kernel
theorem tyJx145de_ok : ∀ k, k < 0 → parseFieldDescriptor (TJx145de k).2.2.1 = some (tyJx145de k) := by decide +kernel
def RJx9f9b0 : String := "java/lang/CharSequence"
def TJx9f9b0 : u_T := fun k => match k with
  | _ => ("", "", "", false)
def tyJx9f9b0 : Nat → FieldType := fun k => match k with
  | _ => .int
abbrev wsJx9f9b00 : List Cond := u_ws RJx9f9b0 TJx9f9b0 0
theorem nmJx9f9b0 : ∀ a, a < 0 → ∀ b, b < 0 → a ≠ b → (TJx9f9b0 a).2.1 ≠ (TJx9f9b0 b).2.1 := by decide +kernel
theorem tyJx9f9b0_ok : ∀ k, k < 0 → parseFieldDescriptor (TJx9f9b0 k).2.2.1 = some (tyJx9f9b0 k) := by decide +kernel
def RJxb160c : String := "java/lang/Comparable"
def TJxb160c : u_T := fun k => match k with
  | _ => ("", "", "", false)
def tyJxb160c : Nat → FieldType := fun k => match k with
  | _ => .int
abbrev wsJxb160c0 : List Cond := u_ws RJxb160c TJxb160c 0
theorem nmJxb160c : ∀ a, a < 0 → ∀ b, b < 0 → a ≠ b → (TJxb160c a).2.1 ≠ (TJxb160c b).2.1 := by decide +kernel
theorem tyJxb160c_ok : ∀ k, k < 0 → parseFieldDescriptor (TJxb160c k).2.2.1 = some (tyJxb160c k) := by decide +kernel
def RJ6 : String := "java/lang/Integer"
def TJ6 : u_T := fun k => match k with
  | _ => ("", "", "", false)
def tyJ6 : Nat → FieldType := fun k => match k with
  | _ => .int
abbrev wsJ60 : List Cond := u_ws RJ6 TJ6 0
theorem nmJ6 : ∀ a, a < 0 → ∀ b, b < 0 → a ≠ b → (TJ6 a).2.1 ≠ (TJ6 b).2.1 := by decide +kernel
theorem tyJ6_ok : ∀ k, k < 0 → parseFieldDescriptor (TJ6 k).2.2.1 = some (tyJ6 k) := by decide +kernel
abbrev cJ6_bitCount_0f7a4 : ByteArray := prog_15_method_49_code
def yJ6_bitCount_0f7a4 : MethodName := ⟨RJ6, "bitCount", "(I)I"⟩
def RJ9 : String := "java/lang/Math"
def TJ9 : u_T := fun k => match k with
  | _ => ("", "", "", false)
def tyJ9 : Nat → FieldType := fun k => match k with
  | _ => .int
abbrev wsJ90 : List Cond := u_ws RJ9 TJ9 0
theorem nmJ9 : ∀ a, a < 0 → ∀ b, b < 0 → a ≠ b → (TJ9 a).2.1 ≠ (TJ9 b).2.1 := by decide +kernel
theorem tyJ9_ok : ∀ k, k < 0 → parseFieldDescriptor (TJ9 k).2.2.1 = some (tyJ9 k) := by decide +kernel
abbrev cJ9_floorDiv_7cf53 : ByteArray := prog_16_method_47_code
def yJ9_floorDiv_7cf53 : MethodName := ⟨RJ9, "floorDiv", "(II)I"⟩
abbrev cJ9_floorMod_7cf53 : ByteArray := prog_16_method_50_code
def yJ9_floorMod_7cf53 : MethodName := ⟨RJ9, "floorMod", "(II)I"⟩
abbrev cJ9_max_7cf53 : ByteArray := prog_16_method_65_code
def yJ9_max_7cf53 : MethodName := ⟨RJ9, "max", "(II)I"⟩
abbrev cJ9_min_7cf53 : ByteArray := prog_16_method_69_code
def yJ9_min_7cf53 : MethodName := ⟨RJ9, "min", "(II)I"⟩
def RJ0 : String := "java/lang/String"
def TJ0 : u_T := fun k => match k with
  | _ => ("", "", "", false)
def tyJ0 : Nat → FieldType := fun k => match k with
  | _ => .int
abbrev wsJ00 : List Cond := u_ws RJ0 TJ0 0
theorem nmJ0 : ∀ a, a < 0 → ∀ b, b < 0 → a ≠ b → (TJ0 a).2.1 ≠ (TJ0 b).2.1 := by decide +kernel
theorem tyJ0_ok : ∀ k, k < 0 → parseFieldDescriptor (TJ0 k).2.2.1 = some (tyJ0 k) := by decide +kernel
abbrev cJ0_length_8abf5 : ByteArray := prog_17_method_54_code
def yJ0_length_8abf5 : MethodName := ⟨RJ0, "length", "()I"⟩
abbrev cJ0_charAt_5068e : ByteArray := prog_17_method_56_code
def yJ0_charAt_5068e : MethodName := ⟨RJ0, "charAt", "(I)C"⟩
abbrev cJ0_coder_7d493 : ByteArray := prog_17_method_152_code
def yJ0_coder_7d493 : MethodName := ⟨RJ0, "coder", "()B"⟩
abbrev cJ0_isLatin1_aae02 : ByteArray := prog_17_method_154_code
def yJ0_isLatin1_aae02 : MethodName := ⟨RJ0, "isLatin1", "()Z"⟩
abbrev cJ0_checkIndex_df160 : ByteArray := prog_17_method_155_code
def yJ0_checkIndex_df160 : MethodName := ⟨RJ0, "checkIndex", "(II)V"⟩
def RJ1 : String := "java/lang/StringLatin1"
def TJ1 : u_T := fun k => match k with
  | _ => ("", "", "", false)
def tyJ1 : Nat → FieldType := fun k => match k with
  | _ => .int
abbrev wsJ10 : List Cond := u_ws RJ1 TJ1 0
theorem nmJ1 : ∀ a, a < 0 → ∀ b, b < 0 → a ≠ b → (TJ1 a).2.1 ≠ (TJ1 b).2.1 := by decide +kernel
theorem tyJ1_ok : ∀ k, k < 0 → parseFieldDescriptor (TJ1 k).2.2.1 = some (tyJ1 k) := by decide +kernel
abbrev cJ1_charAt_3b067 : ByteArray := prog_18_method_2_code
def yJ1_charAt_3b067 : MethodName := ⟨RJ1, "charAt", "([BI)C"⟩
def RJ2 : String := "java/lang/StringUTF16"
def TJ2 : u_T := fun k => match k with
  | _ => ("", "", "", false)
def tyJ2 : Nat → FieldType := fun k => match k with
  | _ => .int
abbrev wsJ20 : List Cond := u_ws RJ2 TJ2 0
theorem nmJ2 : ∀ a, a < 0 → ∀ b, b < 0 → a ≠ b → (TJ2 a).2.1 ≠ (TJ2 b).2.1 := by decide +kernel
theorem tyJ2_ok : ∀ k, k < 0 → parseFieldDescriptor (TJ2 k).2.2.1 = some (tyJ2 k) := by decide +kernel
abbrev cJ2_getChar_3b067 : ByteArray := prog_19_method_5_code
def yJ2_getChar_3b067 : MethodName := ⟨RJ2, "getChar", "([BI)C"⟩
abbrev cJ2_length_9d52b : ByteArray := prog_19_method_6_code
def yJ2_length_9d52b : MethodName := ⟨RJ2, "length", "([B)I"⟩
abbrev cJ2_charAt_3b067 : ByteArray := prog_19_method_83_code
def yJ2_charAt_3b067 : MethodName := ⟨RJ2, "charAt", "([BI)C"⟩
abbrev cJ2_checkIndex_2214a : ByteArray := prog_19_method_91_code
def yJ2_checkIndex_2214a : MethodName := ⟨RJ2, "checkIndex", "(I[B)V"⟩
def RJ10 : String := "java/lang/System"
def TJ10 : u_T := fun k => match k with
  | _ => ("", "", "", false)
def tyJ10 : Nat → FieldType := fun k => match k with
  | _ => .int
abbrev wsJ100 : List Cond := u_ws RJ10 TJ10 0
theorem nmJ10 : ∀ a, a < 0 → ∀ b, b < 0 → a ≠ b → (TJ10 a).2.1 ≠ (TJ10 b).2.1 := by decide +kernel
theorem tyJ10_ok : ∀ k, k < 0 → parseFieldDescriptor (TJ10 k).2.2.1 = some (tyJ10 k) := by decide +kernel
def RJxfd54e : String := "java/lang/constant/Constable"
def TJxfd54e : u_T := fun k => match k with
  | _ => ("", "", "", false)
def tyJxfd54e : Nat → FieldType := fun k => match k with
  | _ => .int
abbrev wsJxfd54e0 : List Cond := u_ws RJxfd54e TJxfd54e 0
theorem nmJxfd54e : ∀ a, a < 0 → ∀ b, b < 0 → a ≠ b → (TJxfd54e a).2.1 ≠ (TJxfd54e b).2.1 := by decide +kernel
theorem tyJxfd54e_ok : ∀ k, k < 0 → parseFieldDescriptor (TJxfd54e k).2.2.1 = some (tyJxfd54e k) := by decide +kernel
def RJx3cf43 : String := "java/lang/constant/ConstantDesc"
def TJx3cf43 : u_T := fun k => match k with
  | _ => ("", "", "", false)
def tyJx3cf43 : Nat → FieldType := fun k => match k with
  | _ => .int
abbrev wsJx3cf430 : List Cond := u_ws RJx3cf43 TJx3cf43 0
theorem nmJx3cf43 : ∀ a, a < 0 → ∀ b, b < 0 → a ≠ b → (TJx3cf43 a).2.1 ≠ (TJx3cf43 b).2.1 := by decide +kernel
theorem tyJx3cf43_ok : ∀ k, k < 0 → parseFieldDescriptor (TJx3cf43 k).2.2.1 = some (tyJx3cf43 k) := by decide +kernel
def RJ7 : String := "java/util/Arrays"
def TJ7 : u_T := fun k => match k with
  | _ => ("", "", "", false)
def tyJ7 : Nat → FieldType := fun k => match k with
  | _ => .int
abbrev wsJ70 : List Cond := u_ws RJ7 TJ7 0
theorem nmJ7 : ∀ a, a < 0 → ∀ b, b < 0 → a ≠ b → (TJ7 a).2.1 ≠ (TJ7 b).2.1 := by decide +kernel
theorem tyJ7_ok : ∀ k, k < 0 → parseFieldDescriptor (TJ7 k).2.2.1 = some (tyJ7 k) := by decide +kernel
abbrev cJ7_fill_d0a16 : ByteArray := prog_21_method_101_code
def yJ7_fill_d0a16 : MethodName := ⟨RJ7, "fill", "([JJ)V"⟩
abbrev cJ7_fill_53178 : ByteArray := prog_21_method_103_code
def yJ7_fill_53178 : MethodName := ⟨RJ7, "fill", "([II)V"⟩
def RJ3 : String := "jdk/internal/util/Preconditions"
def TJ3 : u_T := fun k => match k with
  | _ => ("", "", "", false)
def tyJ3 : Nat → FieldType := fun k => match k with
  | _ => .int
abbrev wsJ30 : List Cond := u_ws RJ3 TJ3 0
theorem nmJ3 : ∀ a, a < 0 → ∀ b, b < 0 → a ≠ b → (TJ3 a).2.1 ≠ (TJ3 b).2.1 := by decide +kernel
theorem tyJ3_ok : ∀ k, k < 0 → parseFieldDescriptor (TJ3 k).2.2.1 = some (tyJ3 k) := by decide +kernel
abbrev cJ3_checkIndex_8e157 : ByteArray := prog_22_method_11_code
def yJ3_checkIndex_8e157 : MethodName := ⟨RJ3, "checkIndex", "(IILjava/util/function/BiFunction;)I"⟩
def RL : String := "DeskDaysLaw"
abbrev cL_law : ByteArray := code
def yL_law : MethodName := ⟨RL, "law", "([I)Z"⟩
abbrev vwCl : List vw_C := [(RX0, TX0, 2), (RX1, TX1, 8), (RX2, TX2, 14), (RX3, TX3, 11), (RX4, TX4, 6), (RX5, TX5, 10), (RX6, TX6, 2), (RX7, TX7, 8), (RX8, TX8, 3), (RX9, TX9, 5), (RX10, TX10, 4), (RX11, TX11, 14), (RX12, TX12, 70)]
def nst : List (String × Nat × MethodName × String) := [("DeskDays", 19, yX2_init, "DeskDays"), ("DeskDays$House", 11, yX1_init, "DeskDays"), ("DeskDays$House", 20, yX3_init, "DeskDays"), ("DeskDays$House", 27, yX7_init, "DeskDays"), ("DeskDays", 65, yX0_init, "DeskDays")]
end
section
/-! the words that every method carries: the good ones of the tables -/
def tb : List Cond := lw_tbl.filter goodWord
theorem tb_at {w : Cond} (i : Nat) (h : (decide (lw_tbl[i]? = some w) && goodWord w) = true) : w ∈ tb := by
  have h1 : lw_tbl[i]? = some w ∧ goodWord w = true := by
    rw [Bool.and_eq_true] at h
    exact ⟨of_decide_eq_true h.1, h.2⟩
  exact List.mem_filter.mpr ⟨List.mem_of_getElem? h1.1, h1.2⟩
theorem tb_good {w : Cond} (h : w ∈ tb) : goodWord w = true := (List.mem_filter.mp h).2
theorem tb_lw {w : Cond} (h : w ∈ tb) : w ∈ lw_tbl := (List.mem_filter.mp h).1
theorem tb_in {c : Cond} (h : c ∈ tb) : GoodIn tb (c :: tb) := fun w hw => (List.mem_cons.mp hw).elim (fun e => e ▸ ⟨h, good_of_word (tb_good h)⟩) (fun h => ⟨h, good_of_word (tb_good h)⟩)
abbrev Gx : Type := va_G × (ClassId × (ClassId × ClassId))
abbrev tyG (G : Gx) : List (ClassId × FieldType) := [(G.2.1, .int), (G.2.2.1, .long), (G.2.2.2, .boolean)]
def KN (U : State) : Prop := ∀ q ∈ nst, va_Nw (.methodLinkNest q.1 q.2.1 q.2.2.1 q.2.2.2) U
def KX (G : Gx) (U : State) : Prop := va_K G.1 vwCl (tyG G) U ∧ KN U
theorem KX.warm {G : Gx} {s U : State} (hW : s.WarmedH U.vm) (h : KX G s) : KX G U := ⟨va_K.moved hW.alike h.1, fun q hq => va_Nw.warmM hW (h.2 q hq)⟩
theorem KX.call {G : Gx} {U : State} {g : JFrame} {mk : MethodId} {a : Array Value} (h : KX G U) : KX G (U.calling g mk a) := ⟨va_K.moved (u := U) (U := U.calling g mk a) (Vm.Alike.refl U.vm) h.1, fun q hq => va_Nw.same rfl (u := U) (U := U.calling g mk a) rfl (h.2 q hq)⟩
abbrev wsU (y : MethodName) (cc : ByteArray) (n : Nat) (ret : Option FieldType) : List Cond := .code y cc n ret :: tb
abbrev rmD (d c s : Nat) : Room := { frames := d, cells := c, slots := s, locals := 60 * d }
abbrev PcX (G : Gx) (vs : List Value) (w0 : va_W) (sz : Nat) : Array Value → State → Prop := va_Pc vs (fun U => U.heap.size = sz ∧ va_P G.1 vwCl w0 U.heap ∧ KX G U ∧ va_D (fun _ => True) w0)
abbrev BX {S : Type} (G : Gx) (A : Nat → Prop) (w1 : S → va_W) : S → State → Prop := fun u t => va_P G.1 vwCl (w1 u) t.heap ∧ va_D A (w1 u)
def CtI {S : Type} (l : Launch) (y : MethodName) (cc : ByteArray) (n : Nat) (ret : Option FieldType) (rm : Room) (G : Gx) (vs : List Value) (w0 : va_W) (post : Int32 → S → Prop) (w1 : S → va_W) : Prop :=
  ∀ sz : Nat, Met l y (wsU y cc n ret) rm (PcX G vs w0 sz) (va_Qi post (BX G (va_A w0 sz) w1) (va_A w0 sz)) rm.cells rm.slots (va_A w0 sz)
def CtL {S : Type} (l : Launch) (y : MethodName) (cc : ByteArray) (n : Nat) (ret : Option FieldType) (rm : Room) (G : Gx) (vs : List Value) (w0 : va_W) (post : Int64 → S → Prop) (w1 : S → va_W) : Prop :=
  ∀ sz : Nat, Met l y (wsU y cc n ret) rm (PcX G vs w0 sz) (va_Ql post (BX G (va_A w0 sz) w1) (va_A w0 sz)) rm.cells rm.slots (va_A w0 sz)
def CtV {S : Type} (l : Launch) (y : MethodName) (cc : ByteArray) (n : Nat) (ret : Option FieldType) (rm : Room) (G : Gx) (vs : List Value) (w0 : va_W) (post : S → Prop) (w1 : S → va_W) : Prop :=
  ∀ sz : Nat, Met l y (wsU y cc n ret) rm (PcX G vs w0 sz) (va_Qv post (BX G (va_A w0 sz) w1) (va_A w0 sz)) rm.cells rm.slots (va_A w0 sz)
theorem blindX {G : Gx} {vs : List Value} {w0 : va_W} {sz : Nat} : FrameBlind (PcX G vs w0 sz) := fun a U g mk q => by
  obtain ⟨q0, q1, qP, qK, qD⟩ := q
  exact ⟨q0, q1, qP, KX.call qK, qD⟩
theorem fm_of {α β : Type} {f : α → Option β} : ∀ {is : List α} {w : List β}, is.map f = w.map some → is.filterMap f = w
  | [], [], _ => rfl
  | [], _ :: _, h => by simp at h
  | _ :: _, [], h => by simp at h
  | a :: is, b :: w, h => by
    simp only [List.map_cons, List.cons.injEq] at h
    rw [List.filterMap_cons, h.1]
    exact congrArg (b :: ·) (fm_of h.2)
/-- the place of a class in the table, its words, its fields' types and names -/
def ClF (ci : Nat) (C : String) (T : u_T) (N : Nat) (ty : Nat → FieldType) : Prop := vwCl[ci]? = some (C, T, N) ∧ (∀ w ∈ u_ws C T N, w ∈ tb) ∧ (∀ k, k < N → parseFieldDescriptor (T k).2.2.1 = some (ty k)) ∧ ∀ a, a < N → ∀ b, b < N → a ≠ b → (T a).2.1 ≠ (T b).2.1
/-- a method's own facts: virtual, static, constructor -/
def KmV (y : MethodName) (cc : ByteArray) (n : Nat) (ret : Option FieldType) (k : Nat) : Prop := Cond.code y cc n ret ∈ tb ∧ Cond.initialized y.cls ∈ tb ∧ Cond.instanceMethod y ∈ tb ∧ Cond.selects y.cls y y ∈ tb ∧ (y.cls ≠ "java/lang/invoke/MethodHandle" ∧ y.cls ≠ "java/lang/invoke/VarHandle" ∧ (parseMethodDescriptor y.desc).map (fun d => d.parameters.length) = some k)
def KmS (y : MethodName) (cc : ByteArray) (n : Nat) (ret : Option FieldType) (k : Nat) : Prop := Cond.code y cc n ret ∈ tb ∧ Cond.initialized y.cls ∈ tb ∧ Cond.static y ∈ tb ∧ (y.cls ≠ "java/lang/invoke/MethodHandle" ∧ y.cls ≠ "java/lang/invoke/VarHandle" ∧ (parseMethodDescriptor y.desc).map (fun d => d.parameters.length) = some k)
def KmI (y : MethodName) (cc : ByteArray) (n : Nat) (k : Nat) : Prop := Cond.code y cc n none ∈ tb ∧ Cond.initialized y.cls ∈ tb ∧ Cond.instanceMethod y ∈ tb ∧ y.name = "<init>" ∧ (y.cls ≠ "java/lang/invoke/MethodHandle" ∧ y.cls ≠ "java/lang/invoke/VarHandle" ∧ (parseMethodDescriptor y.desc).map (fun d => d.parameters.length) = some k)
theorem vin {i : Int32} {n : Nat} (h : decide (¬ (i < 0 ∨ n ≤ i.toNatClampNeg)) = true) : vp_in i n := of_decide_eq_true (p := ¬ (i < 0 ∨ n ≤ i.toNatClampNeg)) h
section
variable {l : Launch} {y : MethodName} {cc : ByteArray} {n : Nat} {ret : Option FieldType} {rm : Room} {G : Gx} {vs : List Value} {w0 : va_W} {S : Type} {w1 : S → va_W} {own : String}
theorem ctI_of {post : Int32 → S → Prop} (hy : plainName y.cls = true) (hcl : y.cls = own) (hn : (lg_sl vs).length ≤ n)
    (body : ∀ (p : Program) (e : Env) (s : State) (m : MethodId) (below : List Frame) (meth : Method) (c : Code) (A : Nat → Prop) (ls : Array Slot), CallFix p m c cc n s vs.toArray tb own → meth.sig.returnType = ret → meth.locks = false → meth.name = y.name → KX G s → va_P G.1 vwCl w0 s.heap → va_D A w0 → (∀ q, s.heap.size ≤ q → A q) → va_S A s.heap s.heap [] → lv_has ls n (lv_args 0 vs) →
      W p l e rm s m vs.toArray below meth c s.heap [] 0 0 (MQ below (va_Qi post (BX G A w1) A) vs.toArray s rm.cells rm.slots A) (F0 m 0 ls [])) : CtI l y cc n ret rm G vs w0 post w1 := by
  intro sz
  refine Met.ofW (cc := cc) (maxL := n) (ret := ret) hy rfl ?_
  intro p e s m args below meth c s₁ B hml hv
  obtain ⟨rfl, hsz, hP, hK, hD0⟩ := hv
  subst hsz
  have hts := atoms_spec (ws := wsU y cc n ret) B.pre
  have hown : s.vm.findClass own = some m.cls := hcl ▸ findClass_of_methodNamed B.named
  rw [lg_entry_eq]
  exact body p e s m below meth c (va_A w0 s.heap.size) _ ⟨B.exec, B.bytes, hml, hown, fun w h => hts w (List.mem_cons_of_mem _ h)⟩ B.returns B.notSynchronized (name_of_methodNamed B.named B.method).1 hK hP (hD0.self (sz := s.heap.size)) (fun q h => Or.inr h) va_S.rf (lv_entry vs hn)
theorem ctL_of {post : Int64 → S → Prop} (hy : plainName y.cls = true) (hcl : y.cls = own) (hn : (lg_sl vs).length ≤ n)
    (body : ∀ (p : Program) (e : Env) (s : State) (m : MethodId) (below : List Frame) (meth : Method) (c : Code) (A : Nat → Prop) (ls : Array Slot), CallFix p m c cc n s vs.toArray tb own → meth.sig.returnType = ret → meth.locks = false → meth.name = y.name → KX G s → va_P G.1 vwCl w0 s.heap → va_D A w0 → (∀ q, s.heap.size ≤ q → A q) → va_S A s.heap s.heap [] → lv_has ls n (lv_args 0 vs) →
      W p l e rm s m vs.toArray below meth c s.heap [] 0 0 (MQ below (va_Ql post (BX G A w1) A) vs.toArray s rm.cells rm.slots A) (F0 m 0 ls [])) : CtL l y cc n ret rm G vs w0 post w1 := by
  intro sz
  refine Met.ofW (cc := cc) (maxL := n) (ret := ret) hy rfl ?_
  intro p e s m args below meth c s₁ B hml hv
  obtain ⟨rfl, hsz, hP, hK, hD0⟩ := hv
  subst hsz
  have hts := atoms_spec (ws := wsU y cc n ret) B.pre
  have hown : s.vm.findClass own = some m.cls := hcl ▸ findClass_of_methodNamed B.named
  rw [lg_entry_eq]
  exact body p e s m below meth c (va_A w0 s.heap.size) _ ⟨B.exec, B.bytes, hml, hown, fun w h => hts w (List.mem_cons_of_mem _ h)⟩ B.returns B.notSynchronized (name_of_methodNamed B.named B.method).1 hK hP (hD0.self (sz := s.heap.size)) (fun q h => Or.inr h) va_S.rf (lv_entry vs hn)
theorem ctV_of {post : S → Prop} (hy : plainName y.cls = true) (hcl : y.cls = own) (hn : (lg_sl vs).length ≤ n)
    (body : ∀ (p : Program) (e : Env) (s : State) (m : MethodId) (below : List Frame) (meth : Method) (c : Code) (A : Nat → Prop) (ls : Array Slot), CallFix p m c cc n s vs.toArray tb own → meth.sig.returnType = ret → meth.locks = false → meth.name = y.name → KX G s → va_P G.1 vwCl w0 s.heap → va_D A w0 → (∀ q, s.heap.size ≤ q → A q) → va_S A s.heap s.heap [] → lv_has ls n (lv_args 0 vs) →
      W p l e rm s m vs.toArray below meth c s.heap [] 0 0 (MQ below (va_Qv post (BX G A w1) A) vs.toArray s rm.cells rm.slots A) (F0 m 0 ls [])) : CtV l y cc n ret rm G vs w0 post w1 := by
  intro sz
  refine Met.ofW (cc := cc) (maxL := n) (ret := ret) hy rfl ?_
  intro p e s m args below meth c s₁ B hml hv
  obtain ⟨rfl, hsz, hP, hK, hD0⟩ := hv
  subst hsz
  have hts := atoms_spec (ws := wsU y cc n ret) B.pre
  have hown : s.vm.findClass own = some m.cls := hcl ▸ findClass_of_methodNamed B.named
  rw [lg_entry_eq]
  exact body p e s m below meth c (va_A w0 s.heap.size) _ ⟨B.exec, B.bytes, hml, hown, fun w h => hts w (List.mem_cons_of_mem _ h)⟩ B.returns B.notSynchronized (name_of_methodNamed B.named B.method).1 hK hP (hD0.self (sz := s.heap.size)) (fun q h => Or.inr h) va_S.rf (lv_entry vs hn)
end
section
variable {p : Program} {l : Launch} {e : Env} {R : Room} {s : State} {m : MethodId} {args : Array Value} {below : List Frame} {meth : Method} {c : Code} {H : Heap} {locs : List Loc} {cells slots : Nat} {Q : State → Prop} {cc : ByteArray} {nL : Nat} {own : String} {pc : Nat} {ls : Array Slot} {rest : List Value} {G : Gx} {A : Nat → Prop} {ws : va_W} {a : Nat}
/-! a number on the stack by another name -/
theorem cst_i {x y : Int32} (h : x = y) (k : W p l e R s m args below meth c H locs cells slots Q (F0 m pc ls (.int y :: rest))) : W p l e R s m args below meth c H locs cells slots Q (F0 m pc ls (.int x :: rest)) := h ▸ k
theorem cst_l {x y : Int64} (h : x = y) (k : W p l e R s m args below meth c H locs cells slots Q (F0 m pc ls (.long y :: rest))) : W p l e R s m args below meth c H locs cells slots Q (F0 m pc ls (.long x :: rest)) := h ▸ k
theorem g_get (F : CallFix p m c cc nL s args tb own) (hK : KX G s) (hP : va_P G.1 vwCl ws H) (q0 : Nat) {ci : Nat} {fs : List Value} (he : ws[q0]? = some (a, .inr (ci, fs))) {C : String} {T : u_T} {N : Nat} {ty : Nat → FieldType} (hc : ClF ci C T N ty) (k : Nat) (hk : k < N) {index : Nat} (hl : Cond.fieldLink own index (T k).1 (T k).2.1 (T k).2.2.1 ∈ tb) {v : Value} (hv : fs[k]? = some v) (hdg : decode cc pc = .ok (.getfield index, 3))
    (kk : W p l e R s m args below meth c H locs cells slots Q (F0 m (pc + 3) ls (v :: rest))) : W p l e R s m args below meth c H locs cells slots Q (F0 m pc ls (.ref a :: rest)) :=
  va_get F.1 F.2.1 F.2.2.2.2 hc.2.1 F.2.2.2.1 hK.1 hP q0 he hc.1 k hk (F.2.2.2.2 _ hl) (fun _ h => h) hv hdg kk
theorem g_put {w' : va_W} (F : CallFix p m c cc nL s args tb own) (hK : KX G s) (hP : va_P G.1 vwCl ws H) (hD : va_D A ws) (hS : va_S A s.heap H locs) (q0 : Nat) {ci : Nat} {fs : List Value} (he : ws[q0]? = some (a, .inr (ci, fs))) {C : String} {T : u_T} {N : Nat} {ty : Nat → FieldType} (hc : ClF ci C T N ty) (k : Nat) (hk : k < N) {index : Nat} (hl : Cond.fieldLink own index (T k).1 (T k).2.1 (T k).2.2.1 ∈ tb) (hfin : (T k).2.2.2 = false) {v : Value} (hn : narrow (ty k) v = v) (hfit : fits (ty k) v = true) (hlen : k < fs.length) (hdg : decode cc pc = .ok (.putfield index, 3)) (hw : ws.set q0 (a, .inr (ci, fs.set k v)) = w')
    (kk : ∀ (H1 : Heap) (locs1 : List Loc), va_P G.1 vwCl w' H1 → va_D A w' → va_S A s.heap H1 locs1 → W p l e R s m args below meth c H1 locs1 cells slots Q (F0 m (pc + 3) ls rest)) : W p l e R s m args below meth c H locs cells slots Q (F0 m pc ls (v :: .ref a :: rest)) := by
  subst hw
  exact va_put F.1 F.2.1 F.2.2.2.2 hc.2.1 ty hc.2.2.1 hc.2.2.2 F.2.2.2.1 hK.1 hP hD hS q0 he hc.1 k hk (F.2.2.2.2 _ hl) (fun _ h => h) hfin (hc.2.2.1 k hk) hn hfit hlen hdg kk
theorem g_putF {w' : va_W} (F : CallFix p m c cc nL s args tb own) (hnm : meth.name = "<init>") (hK : KX G s) (hP : va_P G.1 vwCl ws H) (hD : va_D A ws) (hS : va_S A s.heap H locs) (q0 : Nat) {ci : Nat} {fs : List Value} (he : ws[q0]? = some (a, .inr (ci, fs))) {C : String} {T : u_T} {N : Nat} {ty : Nat → FieldType} (hc : ClF ci C T N ty) (k : Nat) (hk : k < N) {index : Nat} (hl : Cond.fieldLink own index (T k).1 (T k).2.1 (T k).2.2.1 ∈ tb) (hfin : (T k).2.2.2 = true) (hdecl : (T k).1 = own) {v : Value} (hn : narrow (ty k) v = v) (hfit : fits (ty k) v = true) (hlen : k < fs.length) (hdg : decode cc pc = .ok (.putfield index, 3)) (hw : ws.set q0 (a, .inr (ci, fs.set k v)) = w')
    (kk : ∀ (H1 : Heap) (locs1 : List Loc), va_P G.1 vwCl w' H1 → va_D A w' → va_S A s.heap H1 locs1 → W p l e R s m args below meth c H1 locs1 cells slots Q (F0 m (pc + 3) ls rest)) : W p l e R s m args below meth c H locs cells slots Q (F0 m pc ls (v :: .ref a :: rest)) := by
  subst hw
  exact va_putF F.1 F.2.1 F.2.2.2.2 hc.2.1 ty hc.2.2.1 hc.2.2.2 F.2.2.2.1 hK.1 hP hD hS q0 he hc.1 k hk (F.2.2.2.2 _ hl) (fun _ h => h) hfin hnm hdecl (hc.2.2.1 k hk) hn hfit hlen hdg kk
theorem g_iald (F : CallFix p m c cc nL s args tb own) (hK : KX G s) (hP : va_P G.1 vwCl ws H) (q0 : Nat) {n : Nat} {f : Nat → Int32} (ha : ws[q0]? = some (a, .inl (G.2.1, n, .inl f))) {i : Int32} (hin : vp_in i n) (hdg : decode cc pc = .ok (.iaload, 1)) {v : Int32} (hv : f i.toNatClampNeg = v)
    (kk : W p l e R s m args below meth c H locs cells slots Q (F0 m (pc + 1) ls (.int v :: rest))) : W p l e R s m args below meth c H locs cells slots Q (F0 m pc ls (.int i :: .ref a :: rest)) :=
  va_iald F.1 F.2.1 hK.1 hP q0 0 ha rfl hin hdg (hv ▸ kk)
theorem g_lald (F : CallFix p m c cc nL s args tb own) (hK : KX G s) (hP : va_P G.1 vwCl ws H) (q0 : Nat) {n : Nat} {f : Nat → Int64} (ha : ws[q0]? = some (a, .inl (G.2.2.1, n, .inr (.inl f)))) {i : Int32} (hin : vp_in i n) (hdg : decode cc pc = .ok (.laload, 1)) {v : Int64} (hv : f i.toNatClampNeg = v)
    (kk : W p l e R s m args below meth c H locs cells slots Q (F0 m (pc + 1) ls (.long v :: rest))) : W p l e R s m args below meth c H locs cells slots Q (F0 m pc ls (.int i :: .ref a :: rest)) :=
  va_lald F.1 F.2.1 hK.1 hP q0 1 ha rfl hin hdg (hv ▸ kk)
theorem g_iast (F : CallFix p m c cc nL s args tb own) (hK : KX G s) (hP : va_P G.1 vwCl ws H) (hD : va_D A ws) (hS : va_S A s.heap H locs) (q0 : Nat) {n : Nat} {f : Nat → Int32} (ha : ws[q0]? = some (a, .inl (G.2.1, n, .inl f))) {i x : Int32} (hin : vp_in i n) (hdg : decode cc pc = .ok (.iastore, 1)) (w' : (Nat → Int32) → va_W) (hw : ∀ f1, ws.set q0 (a, .inl (G.2.1, n, .inl f1)) = w' f1)
    (kk : ∀ (f1 : Nat → Int32) (H1 : Heap) (locs1 : List Loc), f1 = upd f i.toNatClampNeg x → va_P G.1 vwCl (w' f1) H1 → va_D A (w' f1) → va_S A s.heap H1 locs1 → W p l e R s m args below meth c H1 locs1 cells slots Q (F0 m (pc + 1) ls rest)) : W p l e R s m args below meth c H locs cells slots Q (F0 m pc ls (.int x :: .int i :: .ref a :: rest)) :=
  va_iast F.1 F.2.1 hK.1 hP hD hS q0 0 ha rfl hin hdg (fun H1 locs1 h1 h2 h3 => kk _ H1 locs1 rfl (hw _ ▸ h1) (hw _ ▸ h2) h3)
theorem g_last (F : CallFix p m c cc nL s args tb own) (hK : KX G s) (hP : va_P G.1 vwCl ws H) (hD : va_D A ws) (hS : va_S A s.heap H locs) (q0 : Nat) {n : Nat} {f : Nat → Int64} (ha : ws[q0]? = some (a, .inl (G.2.2.1, n, .inr (.inl f)))) {i : Int32} {x : Int64} (hin : vp_in i n) (hdg : decode cc pc = .ok (.lastore, 1)) (w' : (Nat → Int64) → va_W) (hw : ∀ f1, ws.set q0 (a, .inl (G.2.2.1, n, .inr (.inl f1))) = w' f1)
    (kk : ∀ (f1 : Nat → Int64) (H1 : Heap) (locs1 : List Loc), f1 = vp_updL f i.toNatClampNeg x → va_P G.1 vwCl (w' f1) H1 → va_D A (w' f1) → va_S A s.heap H1 locs1 → W p l e R s m args below meth c H1 locs1 cells slots Q (F0 m (pc + 1) ls rest)) : W p l e R s m args below meth c H locs cells slots Q (F0 m pc ls (.long x :: .int i :: .ref a :: rest)) :=
  va_last F.1 F.2.1 hK.1 hP hD hS q0 1 ha rfl hin hdg (fun H1 locs1 h1 h2 h3 => kk _ H1 locs1 rfl (hw _ ▸ h1) (hw _ ▸ h2) h3)
theorem g_ialen (F : CallFix p m c cc nL s args tb own) (hK : KX G s) (hP : va_P G.1 vwCl ws H) (q0 : Nat) {x : vp_A} (ha : ws[q0]? = some (a, .inl (G.2.1, x))) {v : Int32} (hv : Int32.ofNat x.1 = v) (hdg : decode cc pc = .ok (.arraylength, 1))
    (kk : W p l e R s m args below meth c H locs cells slots Q (F0 m (pc + 1) ls (.int v :: rest))) : W p l e R s m args below meth c H locs cells slots Q (F0 m pc ls (.ref a :: rest)) :=
  va_alen F.1 F.2.1 hK.1 hP q0 0 ha rfl hv hdg kk
theorem g_lalen (F : CallFix p m c cc nL s args tb own) (hK : KX G s) (hP : va_P G.1 vwCl ws H) (q0 : Nat) {x : vp_A} (ha : ws[q0]? = some (a, .inl (G.2.2.1, x))) {v : Int32} (hv : Int32.ofNat x.1 = v) (hdg : decode cc pc = .ok (.arraylength, 1))
    (kk : W p l e R s m args below meth c H locs cells slots Q (F0 m (pc + 1) ls (.int v :: rest))) : W p l e R s m args below meth c H locs cells slots Q (F0 m pc ls (.ref a :: rest)) :=
  va_alen F.1 F.2.1 hK.1 hP q0 1 ha rfl hv hdg kk
theorem g_newI (F : CallFix p m c cc nL s args tb own) (hw : Cond.arrayClass .int ∈ tb) (hK : KX G s) (hP : va_P G.1 vwCl ws H) (hD : va_D A ws) (hS : va_S A s.heap H locs) (hA : ∀ q, s.heap.size ≤ q → A q) {n : Int32} {N : Nat} (hn : ¬ n < 0) (hN : n.toNatClampNeg = N) (hbytes : N * componentBytes .int ≤ 536870912) (hcells : cells + 1 ≤ R.cells) (hslots : slots + N ≤ R.slots) (hdg : decode cc pc = .ok (.newarray .int, 2)) {k1 s1 : Nat} (hk : cells + 1 = k1) (hs : slots + N = s1)
    (kk : ∀ (q : Nat) (H1 : Heap), va_P G.1 vwCl (ws ++ [(q, .inl (G.2.1, N, .inl (fun _ => 0)))]) H1 → va_D A (ws ++ [(q, .inl (G.2.1, N, .inl (fun _ => 0)))]) → va_S A s.heap H1 locs → W p l e R s m args below meth c H1 locs k1 s1 Q (F0 m (pc + 2) ls (.ref q :: rest))) : W p l e R s m args below meth c H locs cells slots Q (F0 m pc ls (.int n :: rest)) := by
  subst hk; subst hs
  refine va_newa (atype := .int) (ty := .int) (a0 := (N, .inl (fun _ => 0))) F.1 F.2.1 (F.2.2.2.2 _ hw) rfl hK.1 hP hD hS hA (fun _ => rfl) hn hN hbytes hcells hslots hdg (fun q cA H1 hK1 hP1 hD1 hS1 => ?_)
  have e1 : s.vm.findClass ("[" ++ (FieldType.int).toString) = some cA := (hK1.2 3 (cA, .int) rfl).2
  have e2 : s.vm.findClass ("[" ++ (FieldType.int).toString) = some G.2.1 := (hK.1.2 0 (G.2.1, .int) rfl).2
  obtain rfl : G.2.1 = cA := Option.some.inj (e2.symm.trans e1)
  exact kk q H1 hP1 hD1 hS1
theorem g_newJ (F : CallFix p m c cc nL s args tb own) (hw : Cond.arrayClass .long ∈ tb) (hK : KX G s) (hP : va_P G.1 vwCl ws H) (hD : va_D A ws) (hS : va_S A s.heap H locs) (hA : ∀ q, s.heap.size ≤ q → A q) {n : Int32} {N : Nat} (hn : ¬ n < 0) (hN : n.toNatClampNeg = N) (hbytes : N * componentBytes .long ≤ 536870912) (hcells : cells + 1 ≤ R.cells) (hslots : slots + N ≤ R.slots) (hdg : decode cc pc = .ok (.newarray .long, 2)) {k1 s1 : Nat} (hk : cells + 1 = k1) (hs : slots + N = s1)
    (kk : ∀ (q : Nat) (H1 : Heap), va_P G.1 vwCl (ws ++ [(q, .inl (G.2.2.1, N, .inr (.inl (fun _ => 0))))]) H1 → va_D A (ws ++ [(q, .inl (G.2.2.1, N, .inr (.inl (fun _ => 0))))]) → va_S A s.heap H1 locs → W p l e R s m args below meth c H1 locs k1 s1 Q (F0 m (pc + 2) ls (.ref q :: rest))) : W p l e R s m args below meth c H locs cells slots Q (F0 m pc ls (.int n :: rest)) := by
  subst hk; subst hs
  refine va_newa (atype := .long) (ty := .long) (a0 := (N, .inr (.inl (fun _ => 0)))) F.1 F.2.1 (F.2.2.2.2 _ hw) rfl hK.1 hP hD hS hA (fun _ => rfl) hn hN hbytes hcells hslots hdg (fun q cA H1 hK1 hP1 hD1 hS1 => ?_)
  have e1 : s.vm.findClass ("[" ++ (FieldType.long).toString) = some cA := (hK1.2 3 (cA, .long) rfl).2
  have e2 : s.vm.findClass ("[" ++ (FieldType.long).toString) = some G.2.2.1 := (hK.1.2 1 (G.2.2.1, .long) rfl).2
  obtain rfl : G.2.2.1 = cA := Option.some.inj (e2.symm.trans e1)
  exact kk q H1 hP1 hD1 hS1
theorem g_newZ (F : CallFix p m c cc nL s args tb own) (hw : Cond.arrayClass .boolean ∈ tb) (hK : KX G s) (hP : va_P G.1 vwCl ws H) (hD : va_D A ws) (hS : va_S A s.heap H locs) (hA : ∀ q, s.heap.size ≤ q → A q) {n : Int32} {N : Nat} (hn : ¬ n < 0) (hN : n.toNatClampNeg = N) (hbytes : N * componentBytes .boolean ≤ 536870912) (hcells : cells + 1 ≤ R.cells) (hslots : slots + N ≤ R.slots) (hdg : decode cc pc = .ok (.newarray .boolean, 2)) {k1 s1 : Nat} (hk : cells + 1 = k1) (hs : slots + N = s1)
    (kk : ∀ (q : Nat) (H1 : Heap), va_P G.1 vwCl (ws ++ [(q, .inl (G.2.2.2, N, .inl (fun _ => 0)))]) H1 → va_D A (ws ++ [(q, .inl (G.2.2.2, N, .inl (fun _ => 0)))]) → va_S A s.heap H1 locs → W p l e R s m args below meth c H1 locs k1 s1 Q (F0 m (pc + 2) ls (.ref q :: rest))) : W p l e R s m args below meth c H locs cells slots Q (F0 m pc ls (.int n :: rest)) := by
  subst hk; subst hs
  refine va_newa (atype := .boolean) (ty := .boolean) (a0 := (N, .inl (fun _ => 0))) F.1 F.2.1 (F.2.2.2.2 _ hw) rfl hK.1 hP hD hS hA (fun _ => rfl) hn hN hbytes hcells hslots hdg (fun q cA H1 hK1 hP1 hD1 hS1 => ?_)
  have e1 : s.vm.findClass ("[" ++ (FieldType.boolean).toString) = some cA := (hK1.2 3 (cA, .boolean) rfl).2
  have e2 : s.vm.findClass ("[" ++ (FieldType.boolean).toString) = some G.2.2.2 := (hK.1.2 2 (G.2.2.2, .boolean) rfl).2
  obtain rfl : G.2.2.2 = cA := Option.some.inj (e2.symm.trans e1)
  exact kk q H1 hP1 hD1 hS1
theorem g_new (F : CallFix p m c cc nL s args tb own) (hK : KX G s) (hP : va_P G.1 vwCl ws H) (hD : va_D A ws) (hS : va_S A s.heap H locs) (hA : ∀ q, s.heap.size ≤ q → A q) {ci : Nat} {C : String} {T : u_T} {N : Nat} {ty : Nat → FieldType} (hc : ClF ci C T N ty) {index : Nat} (hcl : Cond.classLink own index C ∈ tb) (hin : Cond.instantiable C N ∈ tb) (hini : Cond.initialized C ∈ tb) {fs : List Value} (hfs : ∀ j, j < N → defaultValue (ty j) = vp_V fs j) (hcells : cells + 1 ≤ R.cells) (hslots : slots + N ≤ R.slots) (hdg : decode cc pc = .ok (.new index, 3)) {k1 s1 : Nat} (hk : cells + 1 = k1) (hs : slots + N = s1)
    (kk : ∀ (q : Nat) (H1 : Heap), va_P G.1 vwCl (ws ++ [(q, .inr (ci, fs))]) H1 → va_D A (ws ++ [(q, .inr (ci, fs))]) → va_S A s.heap H1 locs → W p l e R s m args below meth c H1 locs k1 s1 Q (F0 m (pc + 3) ls (.ref q :: rest))) : W p l e R s m args below meth c H locs cells slots Q (F0 m pc ls rest) := by
  subst hk; subst hs
  exact va_new F.1 F.2.1 F.2.2.2.2 hc.2.1 ty hc.2.2.1 F.2.2.2.1 (F.2.2.2.2 _ hcl) (F.2.2.2.2 _ hin) (F.2.2.2.2 _ hini) hK.1 hP hD hS hA hc.1 hfs hcells hslots hdg kk
theorem g_oinit (F : CallFix p m c cc nL s args tb own) {idx : Nat} (hl : Cond.methodLink own idx objectInit ∈ tb) (hi : Cond.instanceMethod objectInit ∈ tb) (hcd : Cond.code objectInit ⟨#[0xb1]⟩ 1 none ∈ tb) (hsz : ls.size = nL) (hdg : decode cc pc = .ok (.invokespecial idx, 3)) (hf : 1 ≤ R.frames) (hlo : (rest.map fun v => v.category).sum + 12 ≤ R.locals)
    (kk : W p l e R s m args below meth c H locs cells slots Q (F0 m (pc + 3) ls rest)) : W p l e R s m args below meth c H locs cells slots Q (F0 m pc ls (.ref a :: rest)) :=
  W.objInit F.1 F.2.1 F.2.2.2.1 (F.2.2.2.2 _ hl) (F.2.2.2.2 _ hi) (F.2.2.2.2 _ hcd) rfl (hsz.trans F.2.2.1.symm) rfl hdg hf (by simpa [JFrame.monitorRoom] using hlo) kk
end
section
variable {p : Program} {l : Launch} {e : Env} {R : Room} {s : State} {m : MethodId} {args : Array Value} {below : List Frame} {meth : Method} {c : Code} {H : Heap} {locs : List Loc} {cells slots : Nat} {cc : ByteArray} {nL : Nat} {own : String} {pc : Nat} {ls : Array Slot} {G : Gx} {A : Nat → Prop} {ws : va_W} {S : Type} {w1 : S → va_W}
theorem r_i {post : Int32 → S → Prop} {v : Int32} (F : CallFix p m c cc nL s args tb own) (hr : meth.sig.returnType = some .int) (hlk : meth.locks = false) (hP : va_P G.1 vwCl ws H) (hD : va_D A ws) (hS : va_S A s.heap H locs) (u : S) (is : List Nat) (hnd : va_nd is = true) (his : is.map (fun i => ws[i]?) = (w1 u).map some) (hp : post v u) (hdg : decode cc pc = .ok (.ireturn, 1)) {k n : Nat} (h1 : cells ≤ k) (h2 : slots ≤ n) :
    W p l e R s m args below meth c H locs cells slots (MQ below (va_Qi post (BX G A w1) A) args s k n A) (F0 m pc ls [.int v]) :=
  W.widen h1 h2 (W.iret F.1 F.2.1 hr (fun t ht _ => ⟨⟨v, u, rfl, hp, by rw [ht]; exact hP.sub is (fm_of his), hD.sub is hnd his⟩, hS.F ht⟩) hS.2.2 hdg hlk)
theorem r_z {post : Int32 → S → Prop} {v : Int32} {ty : FieldType} (F : CallFix p m c cc nL s args tb own) (hr : meth.sig.returnType = some ty) (hlk : meth.locks = false) (hP : va_P G.1 vwCl ws H) (hD : va_D A ws) (hS : va_S A s.heap H locs) (u : S) (is : List Nat) (hnd : va_nd is = true) (his : is.map (fun i => ws[i]?) = (w1 u).map some) (hp : post v u) (hdg : decode cc pc = .ok (.ireturn, 1)) {k n : Nat} (h1 : cells ≤ k) (h2 : slots ≤ n) (hn : narrow ty (.int v) = .int v) :
    W p l e R s m args below meth c H locs cells slots (MQ below (va_Qi post (BX G A w1) A) args s k n A) (F0 m pc ls [.int v]) :=
  W.widen h1 h2 (W.zret F.1 F.2.1 hr hn (fun t ht _ => ⟨⟨v, u, rfl, hp, by rw [ht]; exact hP.sub is (fm_of his), hD.sub is hnd his⟩, hS.F ht⟩) hS.2.2 hdg hlk)
theorem r_l {post : Int64 → S → Prop} {v : Int64} (F : CallFix p m c cc nL s args tb own) (hr : meth.sig.returnType = some .long) (hlk : meth.locks = false) (hP : va_P G.1 vwCl ws H) (hD : va_D A ws) (hS : va_S A s.heap H locs) (u : S) (is : List Nat) (hnd : va_nd is = true) (his : is.map (fun i => ws[i]?) = (w1 u).map some) (hp : post v u) (hdg : decode cc pc = .ok (.lreturn, 1)) {k n : Nat} (h1 : cells ≤ k) (h2 : slots ≤ n) :
    W p l e R s m args below meth c H locs cells slots (MQ below (va_Ql post (BX G A w1) A) args s k n A) (F0 m pc ls [.long v]) :=
  W.widen h1 h2 (W.lret F.1 F.2.1 hr (fun t ht _ => ⟨⟨v, u, rfl, hp, by rw [ht]; exact hP.sub is (fm_of his), hD.sub is hnd his⟩, hS.F ht⟩) hS.2.2 hdg hlk)
theorem r_v {post : S → Prop} (F : CallFix p m c cc nL s args tb own) (hr : meth.sig.returnType = none) (hlk : meth.locks = false) (hP : va_P G.1 vwCl ws H) (hD : va_D A ws) (hS : va_S A s.heap H locs) (u : S) (is : List Nat) (hnd : va_nd is = true) (his : is.map (fun i => ws[i]?) = (w1 u).map some) (hp : post u) (hdg : decode cc pc = .ok (.return_, 1)) {k n : Nat} (h1 : cells ≤ k) (h2 : slots ≤ n) :
    W p l e R s m args below meth c H locs cells slots (MQ below (va_Qv post (BX G A w1) A) args s k n A) (F0 m pc ls []) :=
  W.widen h1 h2 (W.vret F.1 F.2.1 hr (fun t ht _ => ⟨⟨u, rfl, hp, by rw [ht]; exact hP.sub is (fm_of his), hD.sub is hnd his⟩, hS.F ht⟩) hS.2.2 hdg hlk)
end
section
variable {p : Program} {l : Launch} {e : Env} {R : Room} {s : State} {m : MethodId} {args : Array Value} {below : List Frame} {meth : Method} {c : Code} {H : Heap} {locs : List Loc} {cells slots : Nat} {Q : State → Prop} {cc : ByteArray} {nL : Nat} {own : String} {pc : Nat} {ls : Array Slot} {rest st : List Value} {G : Gx} {A : Nat → Prop} {ws wr w0 : va_W} {y : MethodName} {bytes : ByteArray} {maxL index b k1 s1 : Nat} {ret : Option FieldType} {rm : Room} {As : List Value} {S : Type} {w1 : S → va_W}
theorem cvi {post : Int32 → S → Prop} (F : CallFix p m c cc nL s args tb own) (hK : KX G s) (hP : va_P G.1 vwCl ws H) (hD : va_D A ws) (hS : va_S A s.heap H locs) (hA : ∀ q, s.heap.size ≤ q → A q) (hM : CtI l y bytes maxL ret rm G (.ref b :: As) w0 post w1) (km : KmV y bytes maxL ret As.length) (hl : Cond.methodLink own index y ∈ tb) {ci : Nat} {fs : List Value} {C : String} {T : u_T} {N : Nat} {ty : Nat → FieldType} (hc : ClF ci C T N ty) (hC0 : C = y.cls) (q0 : Nat) (he : w0[q0]? = some (b, .inr (ci, fs))) (hR : rm.frames + 1 ≤ R.frames ∧ 8 + (maxL + 11) + rm.locals ≤ R.locals) (isC isR : List Nat) (hCn : va_nd isC = true) (hC : isC.map (fun i => ws[i]?) = w0.map some) (hRr : isR.map (fun i => ws[i]?) = wr.map some) (hRn : va_nd isR = true) (hdis : ∀ i ∈ isR, i ∉ isC) (hsz : ls.size = nL) (hst : st = As.reverse ++ .ref b :: rest) (hW : (rest.map fun v => v.category).sum ≤ 8) (hdg : decode cc pc = .ok (.invokevirtual index, 3)) (hf : cells + rm.cells ≤ R.cells ∧ slots + rm.slots ≤ R.slots) (hk : cells + rm.cells = k1) (hs : slots + rm.slots = s1)
    (kk : ∀ (r : Int32) (u : S) (H1 : Heap) (locs1 : List Loc), post r u → va_P G.1 vwCl (wr ++ w1 u) H1 → va_D A (wr ++ w1 u) → va_S A s.heap H1 locs1 → W p l e R s m args below meth c H1 locs1 k1 s1 Q (F0 m (pc + 3) ls (.int r :: rest))) : W p l e R s m args below meth c H locs cells slots Q (F0 m pc ls st) := by
  subst hk; subst hs
  have hPc := hP.sub (ws' := w0) isC (fm_of hC)
  have hDc := hD.sub (ws' := w0) isC hCn hC
  have hFc := va_free (wc := w0) hD hS hA isC hC
  subst hC0
  have cw : CallW R s args own y.cls index y bytes maxL ret (wsU y bytes maxL ret) rm rm.cells rm.slots As.length := ⟨callB_of As.length F.2.2.2.2 (tb_in km.1) rfl rfl rfl (F.2.2.2.2 _ km.2.1) (F.2.2.2.2 _ hl) km.2.2.2.2 hR, F.2.2.2.2 _ km.2.2.1, F.2.2.2.2 _ km.2.2.2.1⟩
  refine va_calli (va_runV (As := As) (rest := rest) F (hM H.size) cw ⟨blindX, va_recv hK.1 hPc hc.1 he, fun U hU hW => ⟨rfl, by rw [hU], by rw [hU]; exact hPc, KX.warm hW hK, hDc.weaken (fun _ _ _ _ => trivial)⟩⟩ rfl rfl hsz hst (lv_room hW) hdg hf) hS (fun q _ h => hFc q h) hFc ?_
  intro r u t H1 locs1 ht hvm hw hB hz1 hk1 hS1
  have hP1 := hB.1
  rw [ht] at hP1
  obtain ⟨hP2, hD2⟩ := va_join (wr := wr) (w1 := w1 u) hP hD isC isR hC hRr hRn hdis hk1 hFc hP1 hB.2
  exact kk r u H1 locs1 hw hP2 hD2 hS1
theorem cvl {post : Int64 → S → Prop} (F : CallFix p m c cc nL s args tb own) (hK : KX G s) (hP : va_P G.1 vwCl ws H) (hD : va_D A ws) (hS : va_S A s.heap H locs) (hA : ∀ q, s.heap.size ≤ q → A q) (hM : CtL l y bytes maxL ret rm G (.ref b :: As) w0 post w1) (km : KmV y bytes maxL ret As.length) (hl : Cond.methodLink own index y ∈ tb) {ci : Nat} {fs : List Value} {C : String} {T : u_T} {N : Nat} {ty : Nat → FieldType} (hc : ClF ci C T N ty) (hC0 : C = y.cls) (q0 : Nat) (he : w0[q0]? = some (b, .inr (ci, fs))) (hR : rm.frames + 1 ≤ R.frames ∧ 8 + (maxL + 11) + rm.locals ≤ R.locals) (isC isR : List Nat) (hCn : va_nd isC = true) (hC : isC.map (fun i => ws[i]?) = w0.map some) (hRr : isR.map (fun i => ws[i]?) = wr.map some) (hRn : va_nd isR = true) (hdis : ∀ i ∈ isR, i ∉ isC) (hsz : ls.size = nL) (hst : st = As.reverse ++ .ref b :: rest) (hW : (rest.map fun v => v.category).sum ≤ 8) (hdg : decode cc pc = .ok (.invokevirtual index, 3)) (hf : cells + rm.cells ≤ R.cells ∧ slots + rm.slots ≤ R.slots) (hk : cells + rm.cells = k1) (hs : slots + rm.slots = s1)
    (kk : ∀ (r : Int64) (u : S) (H1 : Heap) (locs1 : List Loc), post r u → va_P G.1 vwCl (wr ++ w1 u) H1 → va_D A (wr ++ w1 u) → va_S A s.heap H1 locs1 → W p l e R s m args below meth c H1 locs1 k1 s1 Q (F0 m (pc + 3) ls (.long r :: rest))) : W p l e R s m args below meth c H locs cells slots Q (F0 m pc ls st) := by
  subst hk; subst hs
  have hPc := hP.sub (ws' := w0) isC (fm_of hC)
  have hDc := hD.sub (ws' := w0) isC hCn hC
  have hFc := va_free (wc := w0) hD hS hA isC hC
  subst hC0
  have cw : CallW R s args own y.cls index y bytes maxL ret (wsU y bytes maxL ret) rm rm.cells rm.slots As.length := ⟨callB_of As.length F.2.2.2.2 (tb_in km.1) rfl rfl rfl (F.2.2.2.2 _ km.2.1) (F.2.2.2.2 _ hl) km.2.2.2.2 hR, F.2.2.2.2 _ km.2.2.1, F.2.2.2.2 _ km.2.2.2.1⟩
  refine va_calll (va_runV (As := As) (rest := rest) F (hM H.size) cw ⟨blindX, va_recv hK.1 hPc hc.1 he, fun U hU hW => ⟨rfl, by rw [hU], by rw [hU]; exact hPc, KX.warm hW hK, hDc.weaken (fun _ _ _ _ => trivial)⟩⟩ rfl rfl hsz hst (lv_room hW) hdg hf) hS (fun q _ h => hFc q h) hFc ?_
  intro r u t H1 locs1 ht hvm hw hB hz1 hk1 hS1
  have hP1 := hB.1
  rw [ht] at hP1
  obtain ⟨hP2, hD2⟩ := va_join (wr := wr) (w1 := w1 u) hP hD isC isR hC hRr hRn hdis hk1 hFc hP1 hB.2
  exact kk r u H1 locs1 hw hP2 hD2 hS1
theorem cvv {post : S → Prop} (F : CallFix p m c cc nL s args tb own) (hK : KX G s) (hP : va_P G.1 vwCl ws H) (hD : va_D A ws) (hS : va_S A s.heap H locs) (hA : ∀ q, s.heap.size ≤ q → A q) (hM : CtV l y bytes maxL ret rm G (.ref b :: As) w0 post w1) (km : KmV y bytes maxL ret As.length) (hl : Cond.methodLink own index y ∈ tb) {ci : Nat} {fs : List Value} {C : String} {T : u_T} {N : Nat} {ty : Nat → FieldType} (hc : ClF ci C T N ty) (hC0 : C = y.cls) (q0 : Nat) (he : w0[q0]? = some (b, .inr (ci, fs))) (hR : rm.frames + 1 ≤ R.frames ∧ 8 + (maxL + 11) + rm.locals ≤ R.locals) (isC isR : List Nat) (hCn : va_nd isC = true) (hC : isC.map (fun i => ws[i]?) = w0.map some) (hRr : isR.map (fun i => ws[i]?) = wr.map some) (hRn : va_nd isR = true) (hdis : ∀ i ∈ isR, i ∉ isC) (hsz : ls.size = nL) (hst : st = As.reverse ++ .ref b :: rest) (hW : (rest.map fun v => v.category).sum ≤ 8) (hdg : decode cc pc = .ok (.invokevirtual index, 3)) (hf : cells + rm.cells ≤ R.cells ∧ slots + rm.slots ≤ R.slots) (hk : cells + rm.cells = k1) (hs : slots + rm.slots = s1)
    (kk : ∀ (u : S) (H1 : Heap) (locs1 : List Loc), post u → va_P G.1 vwCl (wr ++ w1 u) H1 → va_D A (wr ++ w1 u) → va_S A s.heap H1 locs1 → W p l e R s m args below meth c H1 locs1 k1 s1 Q (F0 m (pc + 3) ls rest)) : W p l e R s m args below meth c H locs cells slots Q (F0 m pc ls st) := by
  subst hk; subst hs
  have hPc := hP.sub (ws' := w0) isC (fm_of hC)
  have hDc := hD.sub (ws' := w0) isC hCn hC
  have hFc := va_free (wc := w0) hD hS hA isC hC
  subst hC0
  have cw : CallW R s args own y.cls index y bytes maxL ret (wsU y bytes maxL ret) rm rm.cells rm.slots As.length := ⟨callB_of As.length F.2.2.2.2 (tb_in km.1) rfl rfl rfl (F.2.2.2.2 _ km.2.1) (F.2.2.2.2 _ hl) km.2.2.2.2 hR, F.2.2.2.2 _ km.2.2.1, F.2.2.2.2 _ km.2.2.2.1⟩
  refine va_callv (va_runV (As := As) (rest := rest) F (hM H.size) cw ⟨blindX, va_recv hK.1 hPc hc.1 he, fun U hU hW => ⟨rfl, by rw [hU], by rw [hU]; exact hPc, KX.warm hW hK, hDc.weaken (fun _ _ _ _ => trivial)⟩⟩ rfl rfl hsz hst (lv_room hW) hdg hf) hS (fun q _ h => hFc q h) hFc ?_
  intro u t H1 locs1 ht hvm hw hB hz1 hk1 hS1
  have hP1 := hB.1
  rw [ht] at hP1
  obtain ⟨hP2, hD2⟩ := va_join (wr := wr) (w1 := w1 u) hP hD isC isR hC hRr hRn hdis hk1 hFc hP1 hB.2
  exact kk u H1 locs1 hw hP2 hD2 hS1
theorem csi {post : Int32 → S → Prop} (F : CallFix p m c cc nL s args tb own) (hK : KX G s) (hP : va_P G.1 vwCl ws H) (hD : va_D A ws) (hS : va_S A s.heap H locs) (hA : ∀ q, s.heap.size ≤ q → A q) (hM : CtI l y bytes maxL ret rm G As w0 post w1) (km : KmS y bytes maxL ret As.length) (hl : Cond.methodLink own index y ∈ tb) (hR : rm.frames + 1 ≤ R.frames ∧ 8 + (maxL + 11) + rm.locals ≤ R.locals) (isC isR : List Nat) (hCn : va_nd isC = true) (hC : isC.map (fun i => ws[i]?) = w0.map some) (hRr : isR.map (fun i => ws[i]?) = wr.map some) (hRn : va_nd isR = true) (hdis : ∀ i ∈ isR, i ∉ isC) (hsz : ls.size = nL) (hst : st = As.reverse ++ rest) (hW : (rest.map fun v => v.category).sum ≤ 8) (hdg : decode cc pc = .ok (.invokestatic index, 3)) (hf : cells + rm.cells ≤ R.cells ∧ slots + rm.slots ≤ R.slots) (hk : cells + rm.cells = k1) (hs : slots + rm.slots = s1)
    (kk : ∀ (r : Int32) (u : S) (H1 : Heap) (locs1 : List Loc), post r u → va_P G.1 vwCl (wr ++ w1 u) H1 → va_D A (wr ++ w1 u) → va_S A s.heap H1 locs1 → W p l e R s m args below meth c H1 locs1 k1 s1 Q (F0 m (pc + 3) ls (.int r :: rest))) : W p l e R s m args below meth c H locs cells slots Q (F0 m pc ls st) := by
  subst hk; subst hs
  have hPc := hP.sub (ws' := w0) isC (fm_of hC)
  have hDc := hD.sub (ws' := w0) isC hCn hC
  have hFc := va_free (wc := w0) hD hS hA isC hC
  have cw : CallB R s args own index y bytes maxL ret (wsU y bytes maxL ret) rm rm.cells rm.slots As.length ∧ (Cond.static y).before args s = true := ⟨callB_of As.length F.2.2.2.2 (tb_in km.1) rfl rfl rfl (F.2.2.2.2 _ km.2.1) (F.2.2.2.2 _ hl) km.2.2.2 hR, F.2.2.2.2 _ km.2.2.1⟩
  refine va_calli (va_runS (As := As) (rest := rest) F (hM H.size) cw ⟨blindX, fun U hU hW => ⟨rfl, by rw [hU], by rw [hU]; exact hPc, KX.warm hW hK, hDc.weaken (fun _ _ _ _ => trivial)⟩⟩ rfl rfl hsz hst (lv_room hW) hdg hf) hS (fun q _ h => hFc q h) hFc ?_
  intro r u t H1 locs1 ht hvm hw hB hz1 hk1 hS1
  have hP1 := hB.1
  rw [ht] at hP1
  obtain ⟨hP2, hD2⟩ := va_join (wr := wr) (w1 := w1 u) hP hD isC isR hC hRr hRn hdis hk1 hFc hP1 hB.2
  exact kk r u H1 locs1 hw hP2 hD2 hS1
theorem csl {post : Int64 → S → Prop} (F : CallFix p m c cc nL s args tb own) (hK : KX G s) (hP : va_P G.1 vwCl ws H) (hD : va_D A ws) (hS : va_S A s.heap H locs) (hA : ∀ q, s.heap.size ≤ q → A q) (hM : CtL l y bytes maxL ret rm G As w0 post w1) (km : KmS y bytes maxL ret As.length) (hl : Cond.methodLink own index y ∈ tb) (hR : rm.frames + 1 ≤ R.frames ∧ 8 + (maxL + 11) + rm.locals ≤ R.locals) (isC isR : List Nat) (hCn : va_nd isC = true) (hC : isC.map (fun i => ws[i]?) = w0.map some) (hRr : isR.map (fun i => ws[i]?) = wr.map some) (hRn : va_nd isR = true) (hdis : ∀ i ∈ isR, i ∉ isC) (hsz : ls.size = nL) (hst : st = As.reverse ++ rest) (hW : (rest.map fun v => v.category).sum ≤ 8) (hdg : decode cc pc = .ok (.invokestatic index, 3)) (hf : cells + rm.cells ≤ R.cells ∧ slots + rm.slots ≤ R.slots) (hk : cells + rm.cells = k1) (hs : slots + rm.slots = s1)
    (kk : ∀ (r : Int64) (u : S) (H1 : Heap) (locs1 : List Loc), post r u → va_P G.1 vwCl (wr ++ w1 u) H1 → va_D A (wr ++ w1 u) → va_S A s.heap H1 locs1 → W p l e R s m args below meth c H1 locs1 k1 s1 Q (F0 m (pc + 3) ls (.long r :: rest))) : W p l e R s m args below meth c H locs cells slots Q (F0 m pc ls st) := by
  subst hk; subst hs
  have hPc := hP.sub (ws' := w0) isC (fm_of hC)
  have hDc := hD.sub (ws' := w0) isC hCn hC
  have hFc := va_free (wc := w0) hD hS hA isC hC
  have cw : CallB R s args own index y bytes maxL ret (wsU y bytes maxL ret) rm rm.cells rm.slots As.length ∧ (Cond.static y).before args s = true := ⟨callB_of As.length F.2.2.2.2 (tb_in km.1) rfl rfl rfl (F.2.2.2.2 _ km.2.1) (F.2.2.2.2 _ hl) km.2.2.2 hR, F.2.2.2.2 _ km.2.2.1⟩
  refine va_calll (va_runS (As := As) (rest := rest) F (hM H.size) cw ⟨blindX, fun U hU hW => ⟨rfl, by rw [hU], by rw [hU]; exact hPc, KX.warm hW hK, hDc.weaken (fun _ _ _ _ => trivial)⟩⟩ rfl rfl hsz hst (lv_room hW) hdg hf) hS (fun q _ h => hFc q h) hFc ?_
  intro r u t H1 locs1 ht hvm hw hB hz1 hk1 hS1
  have hP1 := hB.1
  rw [ht] at hP1
  obtain ⟨hP2, hD2⟩ := va_join (wr := wr) (w1 := w1 u) hP hD isC isR hC hRr hRn hdis hk1 hFc hP1 hB.2
  exact kk r u H1 locs1 hw hP2 hD2 hS1
theorem csv {post : S → Prop} (F : CallFix p m c cc nL s args tb own) (hK : KX G s) (hP : va_P G.1 vwCl ws H) (hD : va_D A ws) (hS : va_S A s.heap H locs) (hA : ∀ q, s.heap.size ≤ q → A q) (hM : CtV l y bytes maxL ret rm G As w0 post w1) (km : KmS y bytes maxL ret As.length) (hl : Cond.methodLink own index y ∈ tb) (hR : rm.frames + 1 ≤ R.frames ∧ 8 + (maxL + 11) + rm.locals ≤ R.locals) (isC isR : List Nat) (hCn : va_nd isC = true) (hC : isC.map (fun i => ws[i]?) = w0.map some) (hRr : isR.map (fun i => ws[i]?) = wr.map some) (hRn : va_nd isR = true) (hdis : ∀ i ∈ isR, i ∉ isC) (hsz : ls.size = nL) (hst : st = As.reverse ++ rest) (hW : (rest.map fun v => v.category).sum ≤ 8) (hdg : decode cc pc = .ok (.invokestatic index, 3)) (hf : cells + rm.cells ≤ R.cells ∧ slots + rm.slots ≤ R.slots) (hk : cells + rm.cells = k1) (hs : slots + rm.slots = s1)
    (kk : ∀ (u : S) (H1 : Heap) (locs1 : List Loc), post u → va_P G.1 vwCl (wr ++ w1 u) H1 → va_D A (wr ++ w1 u) → va_S A s.heap H1 locs1 → W p l e R s m args below meth c H1 locs1 k1 s1 Q (F0 m (pc + 3) ls rest)) : W p l e R s m args below meth c H locs cells slots Q (F0 m pc ls st) := by
  subst hk; subst hs
  have hPc := hP.sub (ws' := w0) isC (fm_of hC)
  have hDc := hD.sub (ws' := w0) isC hCn hC
  have hFc := va_free (wc := w0) hD hS hA isC hC
  have cw : CallB R s args own index y bytes maxL ret (wsU y bytes maxL ret) rm rm.cells rm.slots As.length ∧ (Cond.static y).before args s = true := ⟨callB_of As.length F.2.2.2.2 (tb_in km.1) rfl rfl rfl (F.2.2.2.2 _ km.2.1) (F.2.2.2.2 _ hl) km.2.2.2 hR, F.2.2.2.2 _ km.2.2.1⟩
  refine va_callv (va_runS (As := As) (rest := rest) F (hM H.size) cw ⟨blindX, fun U hU hW => ⟨rfl, by rw [hU], by rw [hU]; exact hPc, KX.warm hW hK, hDc.weaken (fun _ _ _ _ => trivial)⟩⟩ rfl rfl hsz hst (lv_room hW) hdg hf) hS (fun q _ h => hFc q h) hFc ?_
  intro u t H1 locs1 ht hvm hw hB hz1 hk1 hS1
  have hP1 := hB.1
  rw [ht] at hP1
  obtain ⟨hP2, hD2⟩ := va_join (wr := wr) (w1 := w1 u) hP hD isC isR hC hRr hRn hdis hk1 hFc hP1 hB.2
  exact kk u H1 locs1 hw hP2 hD2 hS1
theorem civ {post : S → Prop} (F : CallFix p m c cc nL s args tb own) (hK : KX G s) (hP : va_P G.1 vwCl ws H) (hD : va_D A ws) (hS : va_S A s.heap H locs) (hA : ∀ q, s.heap.size ≤ q → A q) (hM : CtV l y bytes maxL none rm G (.ref b :: As) w0 post w1) (km : KmI y bytes maxL As.length) (hl : Cond.methodLink own index y ∈ tb) (hR : rm.frames + 1 ≤ R.frames ∧ 8 + (maxL + 11) + rm.locals ≤ R.locals) (isC isR : List Nat) (hCn : va_nd isC = true) (hC : isC.map (fun i => ws[i]?) = w0.map some) (hRr : isR.map (fun i => ws[i]?) = wr.map some) (hRn : va_nd isR = true) (hdis : ∀ i ∈ isR, i ∉ isC) (hsz : ls.size = nL) (hst : st = As.reverse ++ .ref b :: rest) (hW : (rest.map fun v => v.category).sum ≤ 8) (hdg : decode cc pc = .ok (.invokespecial index, 3)) (hf : cells + rm.cells ≤ R.cells ∧ slots + rm.slots ≤ R.slots) (hk : cells + rm.cells = k1) (hs : slots + rm.slots = s1)
    (kk : ∀ (u : S) (H1 : Heap) (locs1 : List Loc), post u → va_P G.1 vwCl (wr ++ w1 u) H1 → va_D A (wr ++ w1 u) → va_S A s.heap H1 locs1 → W p l e R s m args below meth c H1 locs1 k1 s1 Q (F0 m (pc + 3) ls rest)) : W p l e R s m args below meth c H locs cells slots Q (F0 m pc ls st) := by
  subst hk; subst hs
  have hPc := hP.sub (ws' := w0) isC (fm_of hC)
  have hDc := hD.sub (ws' := w0) isC hCn hC
  have hFc := va_free (wc := w0) hD hS hA isC hC
  have cw : CallB R s args own index y bytes maxL none (wsU y bytes maxL none) rm rm.cells rm.slots As.length ∧ y.name = "<init>" ∧ (Cond.instanceMethod y).before args s = true := ⟨callB_of As.length F.2.2.2.2 (tb_in km.1) rfl rfl rfl (F.2.2.2.2 _ km.2.1) (F.2.2.2.2 _ hl) km.2.2.2.2 hR, km.2.2.2.1, F.2.2.2.2 _ km.2.2.1⟩
  refine va_callv (va_runI (As := As) (rest := rest) F (hM H.size) cw ⟨blindX, fun U hU hW => ⟨rfl, by rw [hU], by rw [hU]; exact hPc, KX.warm hW hK, hDc.weaken (fun _ _ _ _ => trivial)⟩⟩ rfl rfl hsz hst (lv_room hW) hdg hf) hS (fun q _ h => hFc q h) hFc ?_
  intro u t H1 locs1 ht hvm hw hB hz1 hk1 hS1
  have hP1 := hB.1
  rw [ht] at hP1
  obtain ⟨hP2, hD2⟩ := va_join (wr := wr) (w1 := w1 u) hP hD isC isR hC hRr hRn hdis hk1 hFc hP1 hB.2
  exact kk u H1 locs1 hw hP2 hD2 hS1
theorem cnv {post : S → Prop} (F : CallFix p m c cc nL s args tb own) (hK : KX G s) (hP : va_P G.1 vwCl ws H) (hD : va_D A ws) (hS : va_S A s.heap H locs) (hA : ∀ q, s.heap.size ≤ q → A q) (hM : CtV l y bytes maxL none rm G (.ref b :: As) w0 post w1) (km : KmI y bytes maxL As.length) (host : String) (hl : (own, index, y, host) ∈ nst) (hR : rm.frames + 1 ≤ R.frames ∧ 8 + (maxL + 11) + rm.locals ≤ R.locals) (isC isR : List Nat) (hCn : va_nd isC = true) (hC : isC.map (fun i => ws[i]?) = w0.map some) (hRr : isR.map (fun i => ws[i]?) = wr.map some) (hRn : va_nd isR = true) (hdis : ∀ i ∈ isR, i ∉ isC) (hsz : ls.size = nL) (hst : st = As.reverse ++ .ref b :: rest) (hW : (rest.map fun v => v.category).sum ≤ 8) (hdg : decode cc pc = .ok (.invokespecial index, 3)) (hf : cells + rm.cells ≤ R.cells ∧ slots + rm.slots ≤ R.slots) (hk : cells + rm.cells = k1) (hs : slots + rm.slots = s1)
    (kk : ∀ (u : S) (H1 : Heap) (locs1 : List Loc), post u → va_P G.1 vwCl (wr ++ w1 u) H1 → va_D A (wr ++ w1 u) → va_S A s.heap H1 locs1 → W p l e R s m args below meth c H1 locs1 k1 s1 Q (F0 m (pc + 3) ls rest)) : W p l e R s m args below meth c H locs cells slots Q (F0 m pc ls st) := by
  subst hk; subst hs
  have hPc := hP.sub (ws' := w0) isC (fm_of hC)
  have hDc := hD.sub (ws' := w0) isC hCn hC
  have hFc := va_free (wc := w0) hD hS hA isC hC
  have cw : va_CN R s args own index y host bytes maxL none (wsU y bytes maxL none) rm rm.cells rm.slots As.length ∧ y.name = "<init>" ∧ (Cond.instanceMethod y).before args s = true := ⟨va_cnB As.length F.2.2.2.2 (tb_in km.1) rfl rfl rfl (hK.2 _ hl) (F.2.2.2.2 _ km.2.1) km.2.2.2.2 hR, km.2.2.2.1, F.2.2.2.2 _ km.2.2.1⟩
  refine va_callv (va_runIN (As := As) (rest := rest) F (hM H.size) cw ⟨blindX, fun U hU hW => ⟨rfl, by rw [hU], by rw [hU]; exact hPc, KX.warm hW hK, hDc.weaken (fun _ _ _ _ => trivial)⟩⟩ rfl rfl hsz hst (lv_room hW) hdg hf) hS (fun q _ h => hFc q h) hFc ?_
  intro u t H1 locs1 ht hvm hw hB hz1 hk1 hS1
  have hP1 := hB.1
  rw [ht] at hP1
  obtain ⟨hP2, hD2⟩ := va_join (wr := wr) (w1 := w1 u) hP hD isC isR hC hRr hRn hdis hk1 hFc hP1 hB.2
  exact kk u H1 locs1 hw hP2 hD2 hS1
end
end
section
def isB (a b : Int32) : Int32 := if a < 0 then 0 else if b ≤ a then 0 else 1
def isP (a : Int32) : Int32 := if a < 0 then 0 else if 100 < a then 0 else 1
theorem tlt (a b : Int32) : a < b ↔ a.toInt < b.toInt := Int32.lt_iff_toInt_lt
theorem tle (a b : Int32) : a ≤ b ↔ a.toInt ≤ b.toInt := Int32.le_iff_toInt_le
theorem isB_0 (a : Int32) : isB a 0 = 0 := by
  unfold isB
  split
  · rfl
  · rename_i h
    rw [if_pos]
    rw [tlt] at h
    rw [tle]
    omega
theorem nar_isB (a b : Int32) : narrow .boolean (.int (isB a b)) = .int (isB a b) := by
  unfold isB
  split
  · rfl
  · split <;> rfl
theorem nar_isP (a : Int32) : narrow .boolean (.int (isP a)) = .int (isP a) := by
  unfold isP
  split
  · rfl
  · split <;> rfl
theorem isB_in {d b : Int32} {n : Nat} (h : ¬ isB d b = 0) (hb : b.toInt = (n : Int)) : vp_in d n := by
  rw [vp_in_iff]
  unfold isB at h
  split at h
  · exact absurd rfl h
  · split at h
    · exact absurd rfl h
    · rename_i h1 h2
      rw [tlt] at h1
      rw [tle] at h2
      have h0 : (0 : Int32).toInt = 0 := rfl
      omega
def fFault (a : Int32) : Int32 := if a = 0 then 0 else -1
def fHas (a : Int32) : Int32 := if a = 0 then 0 else if a = 1 then 0 else if a = 2 then 0 else if a = 3 then 0 else if a = 4 then 0 else if a = 5 then 0 else if a = 6 then 0 else if a = 7 then 50 else if a = 8 then 0 else -1
def fDay (a b : Int32) : Int32 := if isB a 5 = 0 then -1 else if b = 0 then 0 else if b = 1 then 0 else if b = 2 then 0 else -1
def fJudge (a : Int32) : Int32 := if a = 0 then 0 else -1
def fShould (a : Int32) : Int32 := if a = 0 then -1 else if a = 1 then 0 else if a = 2 then 0 else -1
def fStatus (a : Int32) : Int32 := if isB a 6 = 0 then -1 else 0
def fEnd (a : Int32) : Int32 := if a < 0 then 0 else if a ≤ 0 then 1 else 0
def fSeed (a : Int32) : Int32 := if a < 0 then 0 else 1
def fNever (a : Int32) : Int32 := if a < 1 then -1 else if 9 < a then -1 else 0
def fFit (a b : Int32) : Int32 := if isB a 5 = 0 then -1000000000 else if b < 0 then -1000000000 else if 2 < b then -1000000000 else 0
def fDraw (a : Int32) : Int32 := if isB a 5 = 0 then -1 else 0
theorem fill_inv {f f1 : Nat → Int64} {i : Nat} {v : Int64} (hI : ∀ j, j < i → f j = v) (e : f1 = vp_updL f (nI i).toNatClampNeg v) (hi : i < 2 ^ 31) : ∀ j, j < i + 1 → f1 j = v := by
  intro j hj
  rw [e, nI_clamp hi]
  unfold vp_updL
  split
  · rfl
  · exact hI j (by omega)
end
section
set_option maxRecDepth 100000 in
theorem inX11 : ∀ w ∈ u_ws RX11 TX11 14, w ∈ tb := fun w h => List.mem_filter.mpr ⟨(by decide +kernel : ∀ w ∈ u_ws RX11 TX11 14, w ∈ lw_tbl) w h, (by decide +kernel : ∀ w ∈ u_ws RX11 TX11 14, goodWord w = true) w h⟩
theorem clX11 : ClF 11 RX11 TX11 14 tyX11 := ⟨rfl, inX11, tyX11_ok, nmX11⟩
set_option maxRecDepth 100000 in
theorem inX4 : ∀ w ∈ u_ws RX4 TX4 6, w ∈ tb := fun w h => List.mem_filter.mpr ⟨(by decide +kernel : ∀ w ∈ u_ws RX4 TX4 6, w ∈ lw_tbl) w h, (by decide +kernel : ∀ w ∈ u_ws RX4 TX4 6, goodWord w = true) w h⟩
theorem clX4 : ClF 4 RX4 TX4 6 tyX4 := ⟨rfl, inX4, tyX4_ok, nmX4⟩
set_option maxRecDepth 100000 in
theorem inX2 : ∀ w ∈ u_ws RX2 TX2 14, w ∈ tb := fun w h => List.mem_filter.mpr ⟨(by decide +kernel : ∀ w ∈ u_ws RX2 TX2 14, w ∈ lw_tbl) w h, (by decide +kernel : ∀ w ∈ u_ws RX2 TX2 14, goodWord w = true) w h⟩
theorem clX2 : ClF 2 RX2 TX2 14 tyX2 := ⟨rfl, inX2, tyX2_ok, nmX2⟩
set_option maxRecDepth 100000 in
theorem inX3 : ∀ w ∈ u_ws RX3 TX3 11, w ∈ tb := fun w h => List.mem_filter.mpr ⟨(by decide +kernel : ∀ w ∈ u_ws RX3 TX3 11, w ∈ lw_tbl) w h, (by decide +kernel : ∀ w ∈ u_ws RX3 TX3 11, goodWord w = true) w h⟩
theorem clX3 : ClF 3 RX3 TX3 11 tyX3 := ⟨rfl, inX3, tyX3_ok, nmX3⟩
set_option maxRecDepth 100000 in
theorem inX1 : ∀ w ∈ u_ws RX1 TX1 8, w ∈ tb := fun w h => List.mem_filter.mpr ⟨(by decide +kernel : ∀ w ∈ u_ws RX1 TX1 8, w ∈ lw_tbl) w h, (by decide +kernel : ∀ w ∈ u_ws RX1 TX1 8, goodWord w = true) w h⟩
theorem clX1 : ClF 1 RX1 TX1 8 tyX1 := ⟨rfl, inX1, tyX1_ok, nmX1⟩
set_option maxRecDepth 100000 in
theorem inX8 : ∀ w ∈ u_ws RX8 TX8 3, w ∈ tb := fun w h => List.mem_filter.mpr ⟨(by decide +kernel : ∀ w ∈ u_ws RX8 TX8 3, w ∈ lw_tbl) w h, (by decide +kernel : ∀ w ∈ u_ws RX8 TX8 3, goodWord w = true) w h⟩
theorem clX8 : ClF 8 RX8 TX8 3 tyX8 := ⟨rfl, inX8, tyX8_ok, nmX8⟩
theorem mlX11_169 : Cond.methodLink RX11 169 yX11_isBelow ∈ tb := tb_at 890 (by decide +kernel)
theorem kmS_X11_isBelow : KmS yX11_isBelow cX11_isBelow 2 (some .boolean) 2 := ⟨tb_at (w := Cond.code yX11_isBelow cX11_isBelow 2 (some .boolean)) 892 (by decide +kernel), tb_at (w := Cond.initialized RX11) 148 (by decide +kernel), tb_at (w := Cond.static yX11_isBelow) 891 (by decide +kernel), ⟨by decide +kernel, by decide +kernel, by decide +kernel⟩⟩
theorem flX11_43 : Cond.fieldLink RX11 43 (TX11 4).1 (TX11 4).2.1 (TX11 4).2.2.1 ∈ tb := tb_at 665 (by decide +kernel)
theorem flX11_121 : Cond.fieldLink RX11 121 (TX4 0).1 (TX4 0).2.1 (TX4 0).2.2.1 ∈ tb := tb_at 583 (by decide +kernel)
theorem flX11_139 : Cond.fieldLink RX11 139 (TX2 1).1 (TX2 1).2.1 (TX2 1).2.2.1 ∈ tb := tb_at 361 (by decide +kernel)
theorem flX11_143 : Cond.fieldLink RX11 143 (TX3 0).1 (TX3 0).2.1 (TX3 0).2.2.1 ∈ tb := tb_at 251 (by decide +kernel)
theorem mlX11_184 : Cond.methodLink RX11 184 yX11_isPerson ∈ tb := tb_at 1054 (by decide +kernel)
theorem kmV_X11_isPerson : KmV yX11_isPerson cX11_isPerson 2 (some .boolean) 1 := ⟨tb_at (w := Cond.code yX11_isPerson cX11_isPerson 2 (some .boolean)) 1057 (by decide +kernel), tb_at (w := Cond.initialized RX11) 148 (by decide +kernel), tb_at (w := Cond.instanceMethod yX11_isPerson) 1056 (by decide +kernel), tb_at (w := Cond.selects yX11_isPerson.cls yX11_isPerson yX11_isPerson) 37 (by decide +kernel), ⟨by decide +kernel, by decide +kernel, by decide +kernel⟩⟩
theorem flX11_86 : Cond.fieldLink RX11 86 (TX11 13).1 (TX11 13).2.1 (TX11 13).2.2.1 ∈ tb := tb_at 674 (by decide +kernel)
theorem flX2_32 : Cond.fieldLink RX2 32 (TX2 3).1 (TX2 3).2.1 (TX2 3).2.2.1 ∈ tb := tb_at 366 (by decide +kernel)
theorem flX2_47 : Cond.fieldLink RX2 47 (TX2 7).1 (TX2 7).2.1 (TX2 7).2.2.1 ∈ tb := tb_at 379 (by decide +kernel)
theorem flX4_28 : Cond.fieldLink RX4 28 (TX4 0).1 (TX4 0).2.1 (TX4 0).2.2.1 ∈ tb := tb_at 579 (by decide +kernel)
theorem flX4_39 : Cond.fieldLink RX4 39 (TX2 1).1 (TX2 1).2.1 (TX2 1).2.2.1 ∈ tb := tb_at 358 (by decide +kernel)
theorem flX4_45 : Cond.fieldLink RX4 45 (TX3 0).1 (TX3 0).2.1 (TX3 0).2.2.1 ∈ tb := tb_at 248 (by decide +kernel)
theorem mlX4_53 : Cond.methodLink RX4 53 yX4_inWithoutOwn ∈ tb := tb_at 1091 (by decide +kernel)
theorem kmV_X4_inWithoutOwn : KmV yX4_inWithoutOwn cX4_inWithoutOwn 4 (some .int) 1 := ⟨tb_at (w := Cond.code yX4_inWithoutOwn cX4_inWithoutOwn 4 (some .int)) 1094 (by decide +kernel), tb_at (w := Cond.initialized RX4) 160 (by decide +kernel), tb_at (w := Cond.instanceMethod yX4_inWithoutOwn) 1092 (by decide +kernel), tb_at (w := Cond.selects yX4_inWithoutOwn.cls yX4_inWithoutOwn yX4_inWithoutOwn) 1093 (by decide +kernel), ⟨by decide +kernel, by decide +kernel, by decide +kernel⟩⟩
theorem flX4_57 : Cond.fieldLink RX4 57 (TX2 0).1 (TX2 0).2.1 (TX2 0).2.2.1 ∈ tb := tb_at 353 (by decide +kernel)
theorem flX4_61 : Cond.fieldLink RX4 61 (TX1 1).1 (TX1 1).2.1 (TX1 1).2.2.1 ∈ tb := tb_at 195 (by decide +kernel)
theorem flX4_66 : Cond.fieldLink RX4 66 (TX1 2).1 (TX1 2).2.1 (TX1 2).2.2.1 ∈ tb := tb_at 199 (by decide +kernel)
theorem mlX4_69 : Cond.methodLink RX4 69 yJ9_max_7cf53 ∈ tb := tb_at 1095 (by decide +kernel)
theorem mmX4_max : Cond.methodLink RX4 69 Lib.Math.max.name ∈ tb := tb_at 1095 (by decide +kernel)
theorem mms_max : Cond.static Lib.Math.max.name ∈ tb := tb_at 748 (by decide +kernel)
theorem ini_J9 : Cond.initialized RJ9 ∈ tb := tb_at 166 (by decide +kernel)
theorem mmc_max : Cond.code Lib.Math.max.name Lib.Math.max.code 2 (some .int) ∈ tb := tb_at 749 (by decide +kernel)
theorem mlX4_101 : Cond.methodLink RX4 101 yX4_standing ∈ tb := tb_at 1125 (by decide +kernel)
theorem kmV_X4_standing : KmV yX4_standing cX4_standing 2 (some .int) 1 := ⟨tb_at (w := Cond.code yX4_standing cX4_standing 2 (some .int)) 1090 (by decide +kernel), tb_at (w := Cond.initialized RX4) 160 (by decide +kernel), tb_at (w := Cond.instanceMethod yX4_standing) 1088 (by decide +kernel), tb_at (w := Cond.selects yX4_standing.cls yX4_standing yX4_standing) 1089 (by decide +kernel), ⟨by decide +kernel, by decide +kernel, by decide +kernel⟩⟩
theorem flX4_104 : Cond.fieldLink RX4 104 (TX2 3).1 (TX2 3).2.1 (TX2 3).2.2.1 ∈ tb := tb_at 369 (by decide +kernel)
theorem flX4_15 : Cond.fieldLink RX4 15 (TX4 2).1 (TX4 2).2.1 (TX4 2).2.2.1 ∈ tb := tb_at 587 (by decide +kernel)
theorem flX4_19 : Cond.fieldLink RX4 19 (TX4 3).1 (TX4 3).2.1 (TX4 3).2.2.1 ∈ tb := tb_at 589 (by decide +kernel)
theorem flX4_22 : Cond.fieldLink RX4 22 (TX4 4).1 (TX4 4).2.1 (TX4 4).2.2.1 ∈ tb := tb_at 591 (by decide +kernel)
theorem mlX4_78 : Cond.methodLink RX4 78 yX4_findForbiddenDay ∈ tb := tb_at 1113 (by decide +kernel)
theorem kmV_X4_findForbiddenDay : KmV yX4_findForbiddenDay cX4_findForbiddenDay 4 none 0 := ⟨tb_at (w := Cond.code yX4_findForbiddenDay cX4_findForbiddenDay 4 none) 1116 (by decide +kernel), tb_at (w := Cond.initialized RX4) 160 (by decide +kernel), tb_at (w := Cond.instanceMethod yX4_findForbiddenDay) 1115 (by decide +kernel), tb_at (w := Cond.selects yX4_findForbiddenDay.cls yX4_findForbiddenDay yX4_findForbiddenDay) 40 (by decide +kernel), ⟨by decide +kernel, by decide +kernel, by decide +kernel⟩⟩
theorem mlX4_81 : Cond.methodLink RX4 81 yX4_findOtherNumber ∈ tb := tb_at 1117 (by decide +kernel)
theorem kmV_X4_findOtherNumber : KmV yX4_findOtherNumber cX4_findOtherNumber 2 none 0 := ⟨tb_at (w := Cond.code yX4_findOtherNumber cX4_findOtherNumber 2 none) 1120 (by decide +kernel), tb_at (w := Cond.initialized RX4) 160 (by decide +kernel), tb_at (w := Cond.instanceMethod yX4_findOtherNumber) 1119 (by decide +kernel), tb_at (w := Cond.selects yX4_findOtherNumber.cls yX4_findOtherNumber yX4_findOtherNumber) 41 (by decide +kernel), ⟨by decide +kernel, by decide +kernel, by decide +kernel⟩⟩
theorem mlX4_84 : Cond.methodLink RX4 84 yX4_findStanding ∈ tb := tb_at 1121 (by decide +kernel)
theorem kmV_X4_findStanding : KmV yX4_findStanding cX4_findStanding 2 none 0 := ⟨tb_at (w := Cond.code yX4_findStanding cX4_findStanding 2 none) 1124 (by decide +kernel), tb_at (w := Cond.initialized RX4) 160 (by decide +kernel), tb_at (w := Cond.instanceMethod yX4_findStanding) 1123 (by decide +kernel), tb_at (w := Cond.selects yX4_findStanding.cls yX4_findStanding yX4_findStanding) 42 (by decide +kernel), ⟨by decide +kernel, by decide +kernel, by decide +kernel⟩⟩
theorem mlX4_87 : Cond.methodLink RX4 87 yX4_findTeamApart ∈ tb := tb_at 1126 (by decide +kernel)
theorem kmV_X4_findTeamApart : KmV yX4_findTeamApart cX4_findTeamApart 2 none 0 := ⟨tb_at (w := Cond.code yX4_findTeamApart cX4_findTeamApart 2 none) 1129 (by decide +kernel), tb_at (w := Cond.initialized RX4) 160 (by decide +kernel), tb_at (w := Cond.instanceMethod yX4_findTeamApart) 1128 (by decide +kernel), tb_at (w := Cond.selects yX4_findTeamApart.cls yX4_findTeamApart yX4_findTeamApart) 43 (by decide +kernel), ⟨by decide +kernel, by decide +kernel, by decide +kernel⟩⟩
theorem mlX4_75 : Cond.methodLink RX4 75 yX4_examine ∈ tb := tb_at 1233 (by decide +kernel)
theorem kmV_X4_examine : KmV yX4_examine cX4_examine 1 none 0 := ⟨tb_at (w := Cond.code yX4_examine cX4_examine 1 none) 1112 (by decide +kernel), tb_at (w := Cond.initialized RX4) 160 (by decide +kernel), tb_at (w := Cond.instanceMethod yX4_examine) 1110 (by decide +kernel), tb_at (w := Cond.selects yX4_examine.cls yX4_examine yX4_examine) 1111 (by decide +kernel), ⟨by decide +kernel, by decide +kernel, by decide +kernel⟩⟩
theorem flX4_127 : Cond.fieldLink RX4 127 (TX2 7).1 (TX2 7).2.1 (TX2 7).2.2.1 ∈ tb := tb_at 383 (by decide +kernel)
theorem mlX4_136 : Cond.methodLink RX4 136 yX4_tieWorth ∈ tb := tb_at 1142 (by decide +kernel)
theorem kmV_X4_tieWorth : KmV yX4_tieWorth cX4_tieWorth 3 (some .int) 0 := ⟨tb_at (w := Cond.code yX4_tieWorth cX4_tieWorth 3 (some .int)) 1145 (by decide +kernel), tb_at (w := Cond.initialized RX4) 160 (by decide +kernel), tb_at (w := Cond.instanceMethod yX4_tieWorth) 1143 (by decide +kernel), tb_at (w := Cond.selects yX4_tieWorth.cls yX4_tieWorth yX4_tieWorth) 1144 (by decide +kernel), ⟨by decide +kernel, by decide +kernel, by decide +kernel⟩⟩
theorem mlX4_140 : Cond.methodLink RX4 140 yX4_inCount ∈ tb := tb_at 1147 (by decide +kernel)
theorem kmV_X4_inCount : KmV yX4_inCount cX4_inCount 4 (some .int) 1 := ⟨tb_at (w := Cond.code yX4_inCount cX4_inCount 4 (some .int)) 1086 (by decide +kernel), tb_at (w := Cond.initialized RX4) 160 (by decide +kernel), tb_at (w := Cond.instanceMethod yX4_inCount) 1084 (by decide +kernel), tb_at (w := Cond.selects yX4_inCount.cls yX4_inCount yX4_inCount) 1085 (by decide +kernel), ⟨by decide +kernel, by decide +kernel, by decide +kernel⟩⟩
theorem flX8_18 : Cond.fieldLink RX8 18 (TX8 0).1 (TX8 0).2.1 (TX8 0).2.2.1 ∈ tb := tb_at 636 (by decide +kernel)
theorem flX8_22 : Cond.fieldLink RX8 22 (TX4 0).1 (TX4 0).2.1 (TX4 0).2.2.1 ∈ tb := tb_at 581 (by decide +kernel)
theorem flX8_28 : Cond.fieldLink RX8 28 (TX2 0).1 (TX2 0).2.1 (TX2 0).2.2.1 ∈ tb := tb_at 351 (by decide +kernel)
theorem flX8_34 : Cond.fieldLink RX8 34 (TX1 0).1 (TX1 0).2.1 (TX1 0).2.2.1 ∈ tb := tb_at 190 (by decide +kernel)
theorem flX8_46 : Cond.fieldLink RX8 46 (TX2 1).1 (TX2 1).2.1 (TX2 1).2.2.1 ∈ tb := tb_at 357 (by decide +kernel)
theorem flX8_50 : Cond.fieldLink RX8 50 (TX3 0).1 (TX3 0).2.1 (TX3 0).2.2.1 ∈ tb := tb_at 247 (by decide +kernel)
theorem flX8_71 : Cond.fieldLink RX8 71 (TX2 7).1 (TX2 7).2.1 (TX2 7).2.2.1 ∈ tb := tb_at 380 (by decide +kernel)
theorem mlX8_87 : Cond.methodLink RX8 87 yX8_fitNow ∈ tb := tb_at 1420 (by decide +kernel)
theorem kmV_X8_fitNow : KmV yX8_fitNow cX8_fitNow 5 (some .int) 0 := ⟨tb_at (w := Cond.code yX8_fitNow cX8_fitNow 5 (some .int)) 1423 (by decide +kernel), tb_at (w := Cond.initialized RX8) 163 (by decide +kernel), tb_at (w := Cond.instanceMethod yX8_fitNow) 1421 (by decide +kernel), tb_at (w := Cond.selects yX8_fitNow.cls yX8_fitNow yX8_fitNow) 1422 (by decide +kernel), ⟨by decide +kernel, by decide +kernel, by decide +kernel⟩⟩
theorem mlX8_83 : Cond.methodLink RX8 83 yX8_exchangeFirst ∈ tb := tb_at 1416 (by decide +kernel)
theorem kmV_X8_exchangeFirst : KmV yX8_exchangeFirst cX8_exchangeFirst 4 (some .boolean) 0 := ⟨tb_at (w := Cond.code yX8_exchangeFirst cX8_exchangeFirst 4 (some .boolean)) 1419 (by decide +kernel), tb_at (w := Cond.initialized RX8) 163 (by decide +kernel), tb_at (w := Cond.instanceMethod yX8_exchangeFirst) 1418 (by decide +kernel), tb_at (w := Cond.selects yX8_exchangeFirst.cls yX8_exchangeFirst yX8_exchangeFirst) 59 (by decide +kernel), ⟨by decide +kernel, by decide +kernel, by decide +kernel⟩⟩
theorem flX8_99 : Cond.fieldLink RX8 99 (TX1 1).1 (TX1 1).2.1 (TX1 1).2.2.1 ∈ tb := tb_at 197 (by decide +kernel)
theorem flX8_102 : Cond.fieldLink RX8 102 (TX1 2).1 (TX1 2).2.1 (TX1 2).2.2.1 ∈ tb := tb_at 201 (by decide +kernel)
theorem mlX8_105 : Cond.methodLink RX8 105 yX4_inWithoutOwn ∈ tb := tb_at 1445 (by decide +kernel)
theorem dX11_isBelow_0 : decode cX11_isBelow 0 = .ok (.iload_n 0, 1) := by decide +kernel
theorem dX11_isBelow_1 : decode cX11_isBelow 1 = .ok (.ifCond .lt 12, 3) := by decide +kernel
theorem dX11_isBelow_10 : decode cX11_isBelow 10 = .ok (.goto 4, 3) := by decide +kernel
theorem dX11_isBelow_13 : decode cX11_isBelow 13 = .ok (.iconst 0, 1) := by decide +kernel
theorem dX11_isBelow_14 : decode cX11_isBelow 14 = .ok (.ireturn, 1) := by decide +kernel
theorem dX11_isBelow_4 : decode cX11_isBelow 4 = .ok (.iload_n 0, 1) := by decide +kernel
theorem dX11_isBelow_5 : decode cX11_isBelow 5 = .ok (.iload_n 1, 1) := by decide +kernel
theorem dX11_isBelow_6 : decode cX11_isBelow 6 = .ok (.if_icmp .ge 7, 3) := by decide +kernel
theorem dX11_isBelow_9 : decode cX11_isBelow 9 = .ok (.iconst 1, 1) := by decide +kernel
theorem dX11_isDay_0 : decode cX11_isDay 0 = .ok (.iload_n 0, 1) := by decide +kernel
theorem dX11_isDay_1 : decode cX11_isDay 1 = .ok (.iconst 5, 1) := by decide +kernel
theorem dX11_isDay_2 : decode cX11_isDay 2 = .ok (.invokestatic 169, 3) := by decide +kernel
theorem dX11_isDay_5 : decode cX11_isDay 5 = .ok (.ireturn, 1) := by decide +kernel
theorem dX11_isPart_0 : decode cX11_isPart 0 = .ok (.iload_n 0, 1) := by decide +kernel
theorem dX11_isPart_1 : decode cX11_isPart 1 = .ok (.ifCond .lt 13, 3) := by decide +kernel
theorem dX11_isPart_10 : decode cX11_isPart 10 = .ok (.iconst 1, 1) := by decide +kernel
theorem dX11_isPart_11 : decode cX11_isPart 11 = .ok (.goto 4, 3) := by decide +kernel
theorem dX11_isPart_14 : decode cX11_isPart 14 = .ok (.iconst 0, 1) := by decide +kernel
theorem dX11_isPart_15 : decode cX11_isPart 15 = .ok (.ireturn, 1) := by decide +kernel
theorem dX11_isPart_4 : decode cX11_isPart 4 = .ok (.iload_n 0, 1) := by decide +kernel
theorem dX11_isPart_5 : decode cX11_isPart 5 = .ok (.bipush 100, 2) := by decide +kernel
theorem dX11_isPart_7 : decode cX11_isPart 7 = .ok (.if_icmp .gt 7, 3) := by decide +kernel
theorem dX11_isPerson_0 : decode cX11_isPerson 0 = .ok (.iload_n 1, 1) := by decide +kernel
theorem dX11_isPerson_1 : decode cX11_isPerson 1 = .ok (.aload_n 0, 1) := by decide +kernel
theorem dX11_isPerson_11 : decode cX11_isPerson 11 = .ok (.getfield 143, 3) := by decide +kernel
theorem dX11_isPerson_14 : decode cX11_isPerson 14 = .ok (.invokestatic 169, 3) := by decide +kernel
theorem dX11_isPerson_17 : decode cX11_isPerson 17 = .ok (.ireturn, 1) := by decide +kernel
theorem dX11_isPerson_2 : decode cX11_isPerson 2 = .ok (.getfield 43, 3) := by decide +kernel
theorem dX11_isPerson_5 : decode cX11_isPerson 5 = .ok (.getfield 121, 3) := by decide +kernel
theorem dX11_isPerson_8 : decode cX11_isPerson 8 = .ok (.getfield 139, 3) := by decide +kernel
theorem dX11_areTwo_0 : decode cX11_areTwo 0 = .ok (.aload_n 0, 1) := by decide +kernel
theorem dX11_areTwo_1 : decode cX11_areTwo 1 = .ok (.iload_n 1, 1) := by decide +kernel
theorem dX11_areTwo_2 : decode cX11_areTwo 2 = .ok (.invokevirtual 184, 3) := by decide +kernel
theorem dX11_areTwo_25 : decode cX11_areTwo 25 = .ok (.iconst 0, 1) := by decide +kernel
theorem dX11_areTwo_26 : decode cX11_areTwo 26 = .ok (.ireturn, 1) := by decide +kernel
theorem dX11_areTwo_5 : decode cX11_areTwo 5 = .ok (.ifCond .eq 20, 3) := by decide +kernel
theorem dX11_refuse_0 : decode cX11_refuse 0 = .ok (.aload_n 0, 1) := by decide +kernel
theorem dX11_refuse_1 : decode cX11_refuse 1 = .ok (.getfield 86, 3) := by decide +kernel
theorem dX11_refuse_10 : decode cX11_refuse 10 = .ok (.iconst (-1), 1) := by decide +kernel
theorem dX11_refuse_11 : decode cX11_refuse 11 = .ok (.ireturn, 1) := by decide +kernel
theorem dX11_refuse_4 : decode cX11_refuse 4 = .ok (.iload_n 1, 1) := by decide +kernel
theorem dX11_refuse_5 : decode cX11_refuse 5 = .ok (.dup2, 1) := by decide +kernel
theorem dX11_refuse_6 : decode cX11_refuse 6 = .ok (.iaload, 1) := by decide +kernel
theorem dX11_refuse_7 : decode cX11_refuse 7 = .ok (.iconst 1, 1) := by decide +kernel
theorem dX11_refuse_8 : decode cX11_refuse 8 = .ok (.iadd, 1) := by decide +kernel
theorem dX11_refuse_9 : decode cX11_refuse 9 = .ok (.iastore, 1) := by decide +kernel
theorem dX2_meetingTeams_0 : decode cX2_meetingTeams 0 = .ok (.iconst 0, 1) := by decide +kernel
theorem dX2_meetingTeams_1 : decode cX2_meetingTeams 1 = .ok (.istore_n 1, 1) := by decide +kernel
theorem dX2_meetingTeams_2 : decode cX2_meetingTeams 2 = .ok (.iconst 0, 1) := by decide +kernel
theorem dX2_meetingTeams_3 : decode cX2_meetingTeams 3 = .ok (.istore_n 2, 1) := by decide +kernel
theorem dX2_meetingTeams_30 : decode cX2_meetingTeams 30 = .ok (.iload_n 1, 1) := by decide +kernel
theorem dX2_meetingTeams_31 : decode cX2_meetingTeams 31 = .ok (.ireturn, 1) := by decide +kernel
theorem dX2_meetingTeams_4 : decode cX2_meetingTeams 4 = .ok (.iload_n 2, 1) := by decide +kernel
theorem dX2_meetingTeams_5 : decode cX2_meetingTeams 5 = .ok (.aload_n 0, 1) := by decide +kernel
theorem dX2_meetingTeams_6 : decode cX2_meetingTeams 6 = .ok (.getfield 32, 3) := by decide +kernel
theorem dX2_meetingTeams_9 : decode cX2_meetingTeams 9 = .ok (.if_icmp .ge 21, 3) := by decide +kernel
theorem dX2_tieBound_0 : decode cX2_tieBound 0 = .ok (.iconst 0, 1) := by decide +kernel
theorem dX2_tieBound_1 : decode cX2_tieBound 1 = .ok (.istore_n 1, 1) := by decide +kernel
theorem dX2_tieBound_104 : decode cX2_tieBound 104 = .ok (.iload_n 1, 1) := by decide +kernel
theorem dX2_tieBound_105 : decode cX2_tieBound 105 = .ok (.ireturn, 1) := by decide +kernel
theorem dX2_tieBound_2 : decode cX2_tieBound 2 = .ok (.iconst 0, 1) := by decide +kernel
theorem dX2_tieBound_3 : decode cX2_tieBound 3 = .ok (.istore_n 2, 1) := by decide +kernel
theorem dX2_tieBound_4 : decode cX2_tieBound 4 = .ok (.iload_n 2, 1) := by decide +kernel
theorem dX2_tieBound_5 : decode cX2_tieBound 5 = .ok (.aload_n 0, 1) := by decide +kernel
theorem dX2_tieBound_6 : decode cX2_tieBound 6 = .ok (.getfield 47, 3) := by decide +kernel
theorem dX2_tieBound_9 : decode cX2_tieBound 9 = .ok (.if_icmp .ge 95, 3) := by decide +kernel
theorem dX4_inCount_0 : decode cX4_inCount 0 = .ok (.iconst 0, 1) := by decide +kernel
theorem dX4_inCount_1 : decode cX4_inCount 1 = .ok (.istore_n 2, 1) := by decide +kernel
theorem dX4_inCount_12 : decode cX4_inCount 12 = .ok (.getfield 45, 3) := by decide +kernel
theorem dX4_inCount_15 : decode cX4_inCount 15 = .ok (.if_icmp .ge 22, 3) := by decide +kernel
theorem dX4_inCount_2 : decode cX4_inCount 2 = .ok (.iconst 0, 1) := by decide +kernel
theorem dX4_inCount_3 : decode cX4_inCount 3 = .ok (.istore_n 3, 1) := by decide +kernel
theorem dX4_inCount_37 : decode cX4_inCount 37 = .ok (.iload_n 2, 1) := by decide +kernel
theorem dX4_inCount_38 : decode cX4_inCount 38 = .ok (.ireturn, 1) := by decide +kernel
theorem dX4_inCount_4 : decode cX4_inCount 4 = .ok (.iload_n 3, 1) := by decide +kernel
theorem dX4_inCount_5 : decode cX4_inCount 5 = .ok (.aload_n 0, 1) := by decide +kernel
theorem dX4_inCount_6 : decode cX4_inCount 6 = .ok (.getfield 28, 3) := by decide +kernel
theorem dX4_inCount_9 : decode cX4_inCount 9 = .ok (.getfield 39, 3) := by decide +kernel
theorem dX4_inWithoutOwn_0 : decode cX4_inWithoutOwn 0 = .ok (.iconst 0, 1) := by decide +kernel
theorem dX4_inWithoutOwn_1 : decode cX4_inWithoutOwn 1 = .ok (.istore_n 2, 1) := by decide +kernel
theorem dX4_inWithoutOwn_12 : decode cX4_inWithoutOwn 12 = .ok (.getfield 45, 3) := by decide +kernel
theorem dX4_inWithoutOwn_15 : decode cX4_inWithoutOwn 15 = .ok (.if_icmp .ge 38, 3) := by decide +kernel
theorem dX4_inWithoutOwn_2 : decode cX4_inWithoutOwn 2 = .ok (.iconst 0, 1) := by decide +kernel
theorem dX4_inWithoutOwn_3 : decode cX4_inWithoutOwn 3 = .ok (.istore_n 3, 1) := by decide +kernel
theorem dX4_inWithoutOwn_4 : decode cX4_inWithoutOwn 4 = .ok (.iload_n 3, 1) := by decide +kernel
theorem dX4_inWithoutOwn_5 : decode cX4_inWithoutOwn 5 = .ok (.aload_n 0, 1) := by decide +kernel
theorem dX4_inWithoutOwn_53 : decode cX4_inWithoutOwn 53 = .ok (.iload_n 2, 1) := by decide +kernel
theorem dX4_inWithoutOwn_54 : decode cX4_inWithoutOwn 54 = .ok (.ireturn, 1) := by decide +kernel
theorem dX4_inWithoutOwn_6 : decode cX4_inWithoutOwn 6 = .ok (.getfield 28, 3) := by decide +kernel
theorem dX4_inWithoutOwn_9 : decode cX4_inWithoutOwn 9 = .ok (.getfield 39, 3) := by decide +kernel
theorem dX4_standing_0 : decode cX4_standing 0 = .ok (.iconst 0, 1) := by decide +kernel
theorem dX4_standing_1 : decode cX4_standing 1 = .ok (.aload_n 0, 1) := by decide +kernel
theorem dX4_standing_10 : decode cX4_standing 10 = .ok (.getfield 57, 3) := by decide +kernel
theorem dX4_standing_13 : decode cX4_standing 13 = .ok (.getfield 61, 3) := by decide +kernel
theorem dX4_standing_16 : decode cX4_standing 16 = .ok (.aload_n 0, 1) := by decide +kernel
theorem dX4_standing_17 : decode cX4_standing 17 = .ok (.getfield 28, 3) := by decide +kernel
theorem dX4_standing_2 : decode cX4_standing 2 = .ok (.iload_n 1, 1) := by decide +kernel
theorem dX4_standing_20 : decode cX4_standing 20 = .ok (.getfield 57, 3) := by decide +kernel
theorem dX4_standing_23 : decode cX4_standing 23 = .ok (.getfield 66, 3) := by decide +kernel
theorem dX4_standing_26 : decode cX4_standing 26 = .ok (.isub, 1) := by decide +kernel
theorem dX4_standing_27 : decode cX4_standing 27 = .ok (.isub, 1) := by decide +kernel
theorem dX4_standing_28 : decode cX4_standing 28 = .ok (.invokestatic 69, 3) := by decide +kernel
theorem dX4_standing_3 : decode cX4_standing 3 = .ok (.invokevirtual 53, 3) := by decide +kernel
theorem dX4_standing_31 : decode cX4_standing 31 = .ok (.ireturn, 1) := by decide +kernel
theorem dX4_standing_6 : decode cX4_standing 6 = .ok (.aload_n 0, 1) := by decide +kernel
theorem dX4_standing_7 : decode cX4_standing 7 = .ok (.getfield 28, 3) := by decide +kernel
theorem dX4_findForbiddenDay_0 : decode cX4_findForbiddenDay 0 = .ok (.iconst 0, 1) := by decide +kernel
theorem dX4_findForbiddenDay_1 : decode cX4_findForbiddenDay 1 = .ok (.istore_n 1, 1) := by decide +kernel
theorem dX4_findForbiddenDay_10 : decode cX4_findForbiddenDay 10 = .ok (.getfield 45, 3) := by decide +kernel
theorem dX4_findForbiddenDay_13 : decode cX4_findForbiddenDay 13 = .ok (.if_icmp .ge 71, 3) := by decide +kernel
theorem dX4_findForbiddenDay_2 : decode cX4_findForbiddenDay 2 = .ok (.iload_n 1, 1) := by decide +kernel
theorem dX4_findForbiddenDay_3 : decode cX4_findForbiddenDay 3 = .ok (.aload_n 0, 1) := by decide +kernel
theorem dX4_findForbiddenDay_4 : decode cX4_findForbiddenDay 4 = .ok (.getfield 28, 3) := by decide +kernel
theorem dX4_findForbiddenDay_7 : decode cX4_findForbiddenDay 7 = .ok (.getfield 39, 3) := by decide +kernel
theorem dX4_findForbiddenDay_84 : decode cX4_findForbiddenDay 84 = .ok (.return_, 1) := by decide +kernel
theorem dX4_findOtherNumber_0 : decode cX4_findOtherNumber 0 = .ok (.iconst 0, 1) := by decide +kernel
theorem dX4_findOtherNumber_1 : decode cX4_findOtherNumber 1 = .ok (.istore_n 1, 1) := by decide +kernel
theorem dX4_findOtherNumber_10 : decode cX4_findOtherNumber 10 = .ok (.getfield 45, 3) := by decide +kernel
theorem dX4_findOtherNumber_13 : decode cX4_findOtherNumber 13 = .ok (.if_icmp .ge 44, 3) := by decide +kernel
theorem dX4_findOtherNumber_2 : decode cX4_findOtherNumber 2 = .ok (.iload_n 1, 1) := by decide +kernel
theorem dX4_findOtherNumber_3 : decode cX4_findOtherNumber 3 = .ok (.aload_n 0, 1) := by decide +kernel
theorem dX4_findOtherNumber_4 : decode cX4_findOtherNumber 4 = .ok (.getfield 28, 3) := by decide +kernel
theorem dX4_findOtherNumber_57 : decode cX4_findOtherNumber 57 = .ok (.return_, 1) := by decide +kernel
theorem dX4_findOtherNumber_7 : decode cX4_findOtherNumber 7 = .ok (.getfield 39, 3) := by decide +kernel
theorem dX4_findStanding_0 : decode cX4_findStanding 0 = .ok (.iconst 0, 1) := by decide +kernel
theorem dX4_findStanding_1 : decode cX4_findStanding 1 = .ok (.istore_n 1, 1) := by decide +kernel
theorem dX4_findStanding_12 : decode cX4_findStanding 12 = .ok (.ifCond .le 14, 3) := by decide +kernel
theorem dX4_findStanding_2 : decode cX4_findStanding 2 = .ok (.iload_n 1, 1) := by decide +kernel
theorem dX4_findStanding_26 : decode cX4_findStanding 26 = .ok (.iinc 1 1, 3) := by decide +kernel
theorem dX4_findStanding_29 : decode cX4_findStanding 29 = .ok (.goto (-27), 3) := by decide +kernel
theorem dX4_findStanding_3 : decode cX4_findStanding 3 = .ok (.iconst 5, 1) := by decide +kernel
theorem dX4_findStanding_32 : decode cX4_findStanding 32 = .ok (.return_, 1) := by decide +kernel
theorem dX4_findStanding_4 : decode cX4_findStanding 4 = .ok (.if_icmp .ge 28, 3) := by decide +kernel
theorem dX4_findStanding_7 : decode cX4_findStanding 7 = .ok (.aload_n 0, 1) := by decide +kernel
theorem dX4_findStanding_8 : decode cX4_findStanding 8 = .ok (.iload_n 1, 1) := by decide +kernel
theorem dX4_findStanding_9 : decode cX4_findStanding 9 = .ok (.invokevirtual 101, 3) := by decide +kernel
theorem dX4_findTeamApart_0 : decode cX4_findTeamApart 0 = .ok (.iconst 0, 1) := by decide +kernel
theorem dX4_findTeamApart_1 : decode cX4_findTeamApart 1 = .ok (.istore_n 1, 1) := by decide +kernel
theorem dX4_findTeamApart_10 : decode cX4_findTeamApart 10 = .ok (.if_icmp .ge 57, 3) := by decide +kernel
theorem dX4_findTeamApart_2 : decode cX4_findTeamApart 2 = .ok (.iload_n 1, 1) := by decide +kernel
theorem dX4_findTeamApart_3 : decode cX4_findTeamApart 3 = .ok (.aload_n 0, 1) := by decide +kernel
theorem dX4_findTeamApart_4 : decode cX4_findTeamApart 4 = .ok (.getfield 28, 3) := by decide +kernel
theorem dX4_findTeamApart_67 : decode cX4_findTeamApart 67 = .ok (.return_, 1) := by decide +kernel
theorem dX4_findTeamApart_7 : decode cX4_findTeamApart 7 = .ok (.getfield 104, 3) := by decide +kernel
theorem dX4_examine_0 : decode cX4_examine 0 = .ok (.aload_n 0, 1) := by decide +kernel
theorem dX4_examine_1 : decode cX4_examine 1 = .ok (.iconst 0, 1) := by decide +kernel
theorem dX4_examine_10 : decode cX4_examine 10 = .ok (.aload_n 0, 1) := by decide +kernel
theorem dX4_examine_11 : decode cX4_examine 11 = .ok (.iconst (-1), 1) := by decide +kernel
theorem dX4_examine_12 : decode cX4_examine 12 = .ok (.putfield 22, 3) := by decide +kernel
theorem dX4_examine_15 : decode cX4_examine 15 = .ok (.aload_n 0, 1) := by decide +kernel
theorem dX4_examine_16 : decode cX4_examine 16 = .ok (.invokevirtual 78, 3) := by decide +kernel
theorem dX4_examine_19 : decode cX4_examine 19 = .ok (.aload_n 0, 1) := by decide +kernel
theorem dX4_examine_2 : decode cX4_examine 2 = .ok (.putfield 15, 3) := by decide +kernel
theorem dX4_examine_20 : decode cX4_examine 20 = .ok (.getfield 15, 3) := by decide +kernel
theorem dX4_examine_23 : decode cX4_examine 23 = .ok (.ifCond .ne 7, 3) := by decide +kernel
theorem dX4_examine_26 : decode cX4_examine 26 = .ok (.aload_n 0, 1) := by decide +kernel
theorem dX4_examine_27 : decode cX4_examine 27 = .ok (.invokevirtual 81, 3) := by decide +kernel
theorem dX4_examine_30 : decode cX4_examine 30 = .ok (.aload_n 0, 1) := by decide +kernel
theorem dX4_examine_31 : decode cX4_examine 31 = .ok (.getfield 15, 3) := by decide +kernel
theorem dX4_examine_34 : decode cX4_examine 34 = .ok (.ifCond .ne 7, 3) := by decide +kernel
theorem dX4_examine_37 : decode cX4_examine 37 = .ok (.aload_n 0, 1) := by decide +kernel
theorem dX4_examine_38 : decode cX4_examine 38 = .ok (.invokevirtual 84, 3) := by decide +kernel
theorem dX4_examine_41 : decode cX4_examine 41 = .ok (.aload_n 0, 1) := by decide +kernel
theorem dX4_examine_42 : decode cX4_examine 42 = .ok (.getfield 15, 3) := by decide +kernel
theorem dX4_examine_45 : decode cX4_examine 45 = .ok (.ifCond .ne 7, 3) := by decide +kernel
theorem dX4_examine_48 : decode cX4_examine 48 = .ok (.aload_n 0, 1) := by decide +kernel
theorem dX4_examine_49 : decode cX4_examine 49 = .ok (.invokevirtual 87, 3) := by decide +kernel
theorem dX4_examine_5 : decode cX4_examine 5 = .ok (.aload_n 0, 1) := by decide +kernel
theorem dX4_examine_52 : decode cX4_examine 52 = .ok (.return_, 1) := by decide +kernel
theorem dX4_examine_6 : decode cX4_examine 6 = .ok (.iconst (-1), 1) := by decide +kernel
theorem dX4_examine_7 : decode cX4_examine 7 = .ok (.putfield 19, 3) := by decide +kernel
theorem dX4_holds_0 : decode cX4_holds 0 = .ok (.aload_n 0, 1) := by decide +kernel
theorem dX4_holds_1 : decode cX4_holds 1 = .ok (.invokevirtual 75, 3) := by decide +kernel
theorem dX4_holds_11 : decode cX4_holds 11 = .ok (.iconst 1, 1) := by decide +kernel
theorem dX4_holds_12 : decode cX4_holds 12 = .ok (.goto 4, 3) := by decide +kernel
theorem dX4_holds_16 : decode cX4_holds 16 = .ok (.ireturn, 1) := by decide +kernel
theorem dX4_holds_4 : decode cX4_holds 4 = .ok (.aload_n 0, 1) := by decide +kernel
theorem dX4_holds_5 : decode cX4_holds 5 = .ok (.getfield 15, 3) := by decide +kernel
theorem dX4_holds_8 : decode cX4_holds 8 = .ok (.ifCond .ne 7, 3) := by decide +kernel
theorem dX4_tieWorth_0 : decode cX4_tieWorth 0 = .ok (.iconst 0, 1) := by decide +kernel
theorem dX4_tieWorth_1 : decode cX4_tieWorth 1 = .ok (.istore_n 1, 1) := by decide +kernel
theorem dX4_tieWorth_12 : decode cX4_tieWorth 12 = .ok (.if_icmp .ge 27, 3) := by decide +kernel
theorem dX4_tieWorth_2 : decode cX4_tieWorth 2 = .ok (.iconst 0, 1) := by decide +kernel
theorem dX4_tieWorth_3 : decode cX4_tieWorth 3 = .ok (.istore_n 2, 1) := by decide +kernel
theorem dX4_tieWorth_39 : decode cX4_tieWorth 39 = .ok (.iload_n 1, 1) := by decide +kernel
theorem dX4_tieWorth_4 : decode cX4_tieWorth 4 = .ok (.iload_n 2, 1) := by decide +kernel
theorem dX4_tieWorth_40 : decode cX4_tieWorth 40 = .ok (.ireturn, 1) := by decide +kernel
theorem dX4_tieWorth_5 : decode cX4_tieWorth 5 = .ok (.aload_n 0, 1) := by decide +kernel
theorem dX4_tieWorth_6 : decode cX4_tieWorth 6 = .ok (.getfield 28, 3) := by decide +kernel
theorem dX4_tieWorth_9 : decode cX4_tieWorth 9 = .ok (.getfield 127, 3) := by decide +kernel
theorem dX4_total_0 : decode cX4_total 0 = .ok (.aload_n 0, 1) := by decide +kernel
theorem dX4_total_1 : decode cX4_total 1 = .ok (.invokevirtual 136, 3) := by decide +kernel
theorem dX4_total_12 : decode cX4_total 12 = .ok (.aload_n 0, 1) := by decide +kernel
theorem dX4_total_13 : decode cX4_total 13 = .ok (.iload_n 2, 1) := by decide +kernel
theorem dX4_total_14 : decode cX4_total 14 = .ok (.invokevirtual 140, 3) := by decide +kernel
theorem dX4_total_17 : decode cX4_total 17 = .ok (.istore_n 3, 1) := by decide +kernel
theorem dX4_total_18 : decode cX4_total 18 = .ok (.iconst 0, 1) := by decide +kernel
theorem dX4_total_19 : decode cX4_total 19 = .ok (.istore 4, 2) := by decide +kernel
theorem dX4_total_21 : decode cX4_total 21 = .ok (.iload 4, 2) := by decide +kernel
theorem dX4_total_23 : decode cX4_total 23 = .ok (.aload_n 0, 1) := by decide +kernel
theorem dX4_total_24 : decode cX4_total 24 = .ok (.getfield 28, 3) := by decide +kernel
theorem dX4_total_27 : decode cX4_total 27 = .ok (.getfield 39, 3) := by decide +kernel
theorem dX4_total_30 : decode cX4_total 30 = .ok (.getfield 45, 3) := by decide +kernel
theorem dX4_total_33 : decode cX4_total 33 = .ok (.if_icmp .ge 48, 3) := by decide +kernel
theorem dX4_total_4 : decode cX4_total 4 = .ok (.istore_n 1, 1) := by decide +kernel
theorem dX4_total_5 : decode cX4_total 5 = .ok (.iconst 0, 1) := by decide +kernel
theorem dX4_total_6 : decode cX4_total 6 = .ok (.istore_n 2, 1) := by decide +kernel
theorem dX4_total_7 : decode cX4_total 7 = .ok (.iload_n 2, 1) := by decide +kernel
theorem dX4_total_8 : decode cX4_total 8 = .ok (.iconst 5, 1) := by decide +kernel
theorem dX4_total_81 : decode cX4_total 81 = .ok (.iinc 2 1, 3) := by decide +kernel
theorem dX4_total_84 : decode cX4_total 84 = .ok (.goto (-77), 3) := by decide +kernel
theorem dX4_total_87 : decode cX4_total 87 = .ok (.iload_n 1, 1) := by decide +kernel
theorem dX4_total_88 : decode cX4_total 88 = .ok (.ireturn, 1) := by decide +kernel
theorem dX4_total_9 : decode cX4_total 9 = .ok (.if_icmp .ge 78, 3) := by decide +kernel
theorem dX4_greatestUnmet_0 : decode cX4_greatestUnmet 0 = .ok (.iconst (-1), 1) := by decide +kernel
theorem dX4_greatestUnmet_1 : decode cX4_greatestUnmet 1 = .ok (.istore_n 1, 1) := by decide +kernel
theorem dX4_greatestUnmet_12 : decode cX4_greatestUnmet 12 = .ok (.if_icmp .ge 45, 3) := by decide +kernel
theorem dX4_greatestUnmet_2 : decode cX4_greatestUnmet 2 = .ok (.iconst 0, 1) := by decide +kernel
theorem dX4_greatestUnmet_3 : decode cX4_greatestUnmet 3 = .ok (.istore_n 2, 1) := by decide +kernel
theorem dX4_greatestUnmet_4 : decode cX4_greatestUnmet 4 = .ok (.iload_n 2, 1) := by decide +kernel
theorem dX4_greatestUnmet_5 : decode cX4_greatestUnmet 5 = .ok (.aload_n 0, 1) := by decide +kernel
theorem dX4_greatestUnmet_57 : decode cX4_greatestUnmet 57 = .ok (.iload_n 1, 1) := by decide +kernel
theorem dX4_greatestUnmet_58 : decode cX4_greatestUnmet 58 = .ok (.ireturn, 1) := by decide +kernel
theorem dX4_greatestUnmet_6 : decode cX4_greatestUnmet 6 = .ok (.getfield 28, 3) := by decide +kernel
theorem dX4_greatestUnmet_9 : decode cX4_greatestUnmet 9 = .ok (.getfield 127, 3) := by decide +kernel
theorem dX4_unmetTies_0 : decode cX4_unmetTies 0 = .ok (.iconst 0, 1) := by decide +kernel
theorem dX4_unmetTies_1 : decode cX4_unmetTies 1 = .ok (.istore_n 1, 1) := by decide +kernel
theorem dX4_unmetTies_12 : decode cX4_unmetTies 12 = .ok (.if_icmp .ge 20, 3) := by decide +kernel
theorem dX4_unmetTies_2 : decode cX4_unmetTies 2 = .ok (.iconst 0, 1) := by decide +kernel
theorem dX4_unmetTies_3 : decode cX4_unmetTies 3 = .ok (.istore_n 2, 1) := by decide +kernel
theorem dX4_unmetTies_32 : decode cX4_unmetTies 32 = .ok (.iload_n 1, 1) := by decide +kernel
theorem dX4_unmetTies_33 : decode cX4_unmetTies 33 = .ok (.ireturn, 1) := by decide +kernel
theorem dX4_unmetTies_4 : decode cX4_unmetTies 4 = .ok (.iload_n 2, 1) := by decide +kernel
theorem dX4_unmetTies_5 : decode cX4_unmetTies 5 = .ok (.aload_n 0, 1) := by decide +kernel
theorem dX4_unmetTies_6 : decode cX4_unmetTies 6 = .ok (.getfield 28, 3) := by decide +kernel
theorem dX4_unmetTies_9 : decode cX4_unmetTies 9 = .ok (.getfield 127, 3) := by decide +kernel
theorem dX4_lonelyPersons_0 : decode cX4_lonelyPersons 0 = .ok (.iconst 0, 1) := by decide +kernel
theorem dX4_lonelyPersons_1 : decode cX4_lonelyPersons 1 = .ok (.istore_n 1, 1) := by decide +kernel
theorem dX4_lonelyPersons_12 : decode cX4_lonelyPersons 12 = .ok (.getfield 45, 3) := by decide +kernel
theorem dX4_lonelyPersons_15 : decode cX4_lonelyPersons 15 = .ok (.if_icmp .ge 20, 3) := by decide +kernel
theorem dX4_lonelyPersons_2 : decode cX4_lonelyPersons 2 = .ok (.iconst 0, 1) := by decide +kernel
theorem dX4_lonelyPersons_3 : decode cX4_lonelyPersons 3 = .ok (.istore_n 2, 1) := by decide +kernel
theorem dX4_lonelyPersons_35 : decode cX4_lonelyPersons 35 = .ok (.iload_n 1, 1) := by decide +kernel
theorem dX4_lonelyPersons_36 : decode cX4_lonelyPersons 36 = .ok (.ireturn, 1) := by decide +kernel
theorem dX4_lonelyPersons_4 : decode cX4_lonelyPersons 4 = .ok (.iload_n 2, 1) := by decide +kernel
theorem dX4_lonelyPersons_5 : decode cX4_lonelyPersons 5 = .ok (.aload_n 0, 1) := by decide +kernel
theorem dX4_lonelyPersons_6 : decode cX4_lonelyPersons 6 = .ok (.getfield 28, 3) := by decide +kernel
theorem dX4_lonelyPersons_9 : decode cX4_lonelyPersons 9 = .ok (.getfield 39, 3) := by decide +kernel
theorem dX4_goRound_0 : decode cX4_goRound 0 = .ok (.iconst 0, 1) := by decide +kernel
theorem dX4_goRound_1 : decode cX4_goRound 1 = .ok (.istore_n 1, 1) := by decide +kernel
theorem dX4_goRound_12 : decode cX4_goRound 12 = .ok (.getfield 45, 3) := by decide +kernel
theorem dX4_goRound_15 : decode cX4_goRound 15 = .ok (.if_icmp .ge 34, 3) := by decide +kernel
theorem dX4_goRound_2 : decode cX4_goRound 2 = .ok (.iconst 0, 1) := by decide +kernel
theorem dX4_goRound_3 : decode cX4_goRound 3 = .ok (.istore_n 2, 1) := by decide +kernel
theorem dX4_goRound_4 : decode cX4_goRound 4 = .ok (.iload_n 2, 1) := by decide +kernel
theorem dX4_goRound_49 : decode cX4_goRound 49 = .ok (.iload_n 1, 1) := by decide +kernel
theorem dX4_goRound_5 : decode cX4_goRound 5 = .ok (.aload_n 0, 1) := by decide +kernel
theorem dX4_goRound_50 : decode cX4_goRound 50 = .ok (.ireturn, 1) := by decide +kernel
theorem dX4_goRound_6 : decode cX4_goRound 6 = .ok (.getfield 28, 3) := by decide +kernel
theorem dX4_goRound_9 : decode cX4_goRound 9 = .ok (.getfield 39, 3) := by decide +kernel
theorem dX4_unmetWithin_0 : decode cX4_unmetWithin 0 = .ok (.iconst 0, 1) := by decide +kernel
theorem dX4_unmetWithin_1 : decode cX4_unmetWithin 1 = .ok (.istore_n 2, 1) := by decide +kernel
theorem dX4_unmetWithin_12 : decode cX4_unmetWithin 12 = .ok (.if_icmp .ge 81, 3) := by decide +kernel
theorem dX4_unmetWithin_2 : decode cX4_unmetWithin 2 = .ok (.iconst 0, 1) := by decide +kernel
theorem dX4_unmetWithin_3 : decode cX4_unmetWithin 3 = .ok (.istore_n 3, 1) := by decide +kernel
theorem dX4_unmetWithin_4 : decode cX4_unmetWithin 4 = .ok (.iload_n 3, 1) := by decide +kernel
theorem dX4_unmetWithin_5 : decode cX4_unmetWithin 5 = .ok (.aload_n 0, 1) := by decide +kernel
theorem dX4_unmetWithin_6 : decode cX4_unmetWithin 6 = .ok (.getfield 28, 3) := by decide +kernel
theorem dX4_unmetWithin_9 : decode cX4_unmetWithin 9 = .ok (.getfield 127, 3) := by decide +kernel
theorem dX4_unmetWithin_93 : decode cX4_unmetWithin 93 = .ok (.iload_n 2, 1) := by decide +kernel
theorem dX4_unmetWithin_94 : decode cX4_unmetWithin 94 = .ok (.ireturn, 1) := by decide +kernel
theorem dX8_settle_0 : decode cX8_settle 0 = .ok (.aload_n 0, 1) := by decide +kernel
theorem dX8_settle_1 : decode cX8_settle 1 = .ok (.getfield 18, 3) := by decide +kernel
theorem dX8_settle_10 : decode cX8_settle 10 = .ok (.iload_n 3, 1) := by decide +kernel
theorem dX8_settle_102 : decode cX8_settle 102 = .ok (.iconst 0, 1) := by decide +kernel
theorem dX8_settle_103 : decode cX8_settle 103 = .ok (.istore_n 3, 1) := by decide +kernel
theorem dX8_settle_104 : decode cX8_settle 104 = .ok (.iload_n 3, 1) := by decide +kernel
theorem dX8_settle_105 : decode cX8_settle 105 = .ok (.aload_n 2, 1) := by decide +kernel
theorem dX8_settle_106 : decode cX8_settle 106 = .ok (.getfield 46, 3) := by decide +kernel
theorem dX8_settle_109 : decode cX8_settle 109 = .ok (.getfield 50, 3) := by decide +kernel
theorem dX8_settle_11 : decode cX8_settle 11 = .ok (.aload_n 2, 1) := by decide +kernel
theorem dX8_settle_112 : decode cX8_settle 112 = .ok (.if_icmp .ge 39, 3) := by decide +kernel
theorem dX8_settle_12 : decode cX8_settle 12 = .ok (.getfield 28, 3) := by decide +kernel
theorem dX8_settle_15 : decode cX8_settle 15 = .ok (.getfield 34, 3) := by decide +kernel
theorem dX8_settle_151 : decode cX8_settle 151 = .ok (.return_, 1) := by decide +kernel
theorem dX8_settle_18 : decode cX8_settle 18 = .ok (.if_icmp .ge 34, 3) := by decide +kernel
theorem dX8_settle_4 : decode cX8_settle 4 = .ok (.getfield 22, 3) := by decide +kernel
theorem dX8_settle_52 : decode cX8_settle 52 = .ok (.iconst 0, 1) := by decide +kernel
theorem dX8_settle_53 : decode cX8_settle 53 = .ok (.istore_n 3, 1) := by decide +kernel
theorem dX8_settle_54 : decode cX8_settle 54 = .ok (.iload_n 3, 1) := by decide +kernel
theorem dX8_settle_55 : decode cX8_settle 55 = .ok (.aload_n 2, 1) := by decide +kernel
theorem dX8_settle_56 : decode cX8_settle 56 = .ok (.getfield 46, 3) := by decide +kernel
theorem dX8_settle_59 : decode cX8_settle 59 = .ok (.getfield 50, 3) := by decide +kernel
theorem dX8_settle_62 : decode cX8_settle 62 = .ok (.if_icmp .ge 40, 3) := by decide +kernel
theorem dX8_settle_7 : decode cX8_settle 7 = .ok (.astore_n 2, 1) := by decide +kernel
theorem dX8_settle_8 : decode cX8_settle 8 = .ok (.iconst 0, 1) := by decide +kernel
theorem dX8_settle_9 : decode cX8_settle 9 = .ok (.istore_n 3, 1) := by decide +kernel
theorem dX8_fitNow_0 : decode cX8_fitNow 0 = .ok (.aload_n 0, 1) := by decide +kernel
theorem dX8_fitNow_1 : decode cX8_fitNow 1 = .ok (.getfield 18, 3) := by decide +kernel
theorem dX8_fitNow_10 : decode cX8_fitNow 10 = .ok (.iconst 0, 1) := by decide +kernel
theorem dX8_fitNow_11 : decode cX8_fitNow 11 = .ok (.istore_n 3, 1) := by decide +kernel
theorem dX8_fitNow_116 : decode cX8_fitNow 116 = .ok (.iload_n 2, 1) := by decide +kernel
theorem dX8_fitNow_117 : decode cX8_fitNow 117 = .ok (.ireturn, 1) := by decide +kernel
theorem dX8_fitNow_12 : decode cX8_fitNow 12 = .ok (.iload_n 3, 1) := by decide +kernel
theorem dX8_fitNow_13 : decode cX8_fitNow 13 = .ok (.aload_n 1, 1) := by decide +kernel
theorem dX8_fitNow_14 : decode cX8_fitNow 14 = .ok (.getfield 71, 3) := by decide +kernel
theorem dX8_fitNow_17 : decode cX8_fitNow 17 = .ok (.if_icmp .ge 53, 3) := by decide +kernel
theorem dX8_fitNow_4 : decode cX8_fitNow 4 = .ok (.getfield 22, 3) := by decide +kernel
theorem dX8_fitNow_7 : decode cX8_fitNow 7 = .ok (.astore_n 1, 1) := by decide +kernel
theorem dX8_fitNow_70 : decode cX8_fitNow 70 = .ok (.iconst 0, 1) := by decide +kernel
theorem dX8_fitNow_71 : decode cX8_fitNow 71 = .ok (.istore_n 3, 1) := by decide +kernel
theorem dX8_fitNow_72 : decode cX8_fitNow 72 = .ok (.iload_n 3, 1) := by decide +kernel
theorem dX8_fitNow_73 : decode cX8_fitNow 73 = .ok (.aload_n 1, 1) := by decide +kernel
theorem dX8_fitNow_74 : decode cX8_fitNow 74 = .ok (.getfield 46, 3) := by decide +kernel
theorem dX8_fitNow_77 : decode cX8_fitNow 77 = .ok (.getfield 50, 3) := by decide +kernel
theorem dX8_fitNow_8 : decode cX8_fitNow 8 = .ok (.iconst 0, 1) := by decide +kernel
theorem dX8_fitNow_80 : decode cX8_fitNow 80 = .ok (.if_icmp .ge 36, 3) := by decide +kernel
theorem dX8_fitNow_9 : decode cX8_fitNow 9 = .ok (.istore_n 2, 1) := by decide +kernel
theorem dX8_exchangeFirst_0 : decode cX8_exchangeFirst 0 = .ok (.aload_n 0, 1) := by decide +kernel
theorem dX8_exchangeFirst_1 : decode cX8_exchangeFirst 1 = .ok (.invokevirtual 87, 3) := by decide +kernel
theorem dX8_exchangeFirst_110 : decode cX8_exchangeFirst 110 = .ok (.iconst 0, 1) := by decide +kernel
theorem dX8_exchangeFirst_111 : decode cX8_exchangeFirst 111 = .ok (.ireturn, 1) := by decide +kernel
theorem dX8_exchangeFirst_12 : decode cX8_exchangeFirst 12 = .ok (.getfield 22, 3) := by decide +kernel
theorem dX8_exchangeFirst_15 : decode cX8_exchangeFirst 15 = .ok (.getfield 46, 3) := by decide +kernel
theorem dX8_exchangeFirst_18 : decode cX8_exchangeFirst 18 = .ok (.getfield 50, 3) := by decide +kernel
theorem dX8_exchangeFirst_21 : decode cX8_exchangeFirst 21 = .ok (.if_icmp .ge 89, 3) := by decide +kernel
theorem dX8_exchangeFirst_4 : decode cX8_exchangeFirst 4 = .ok (.istore_n 1, 1) := by decide +kernel
theorem dX8_exchangeFirst_5 : decode cX8_exchangeFirst 5 = .ok (.iconst 0, 1) := by decide +kernel
theorem dX8_exchangeFirst_6 : decode cX8_exchangeFirst 6 = .ok (.istore_n 2, 1) := by decide +kernel
theorem dX8_exchangeFirst_7 : decode cX8_exchangeFirst 7 = .ok (.iload_n 2, 1) := by decide +kernel
theorem dX8_exchangeFirst_8 : decode cX8_exchangeFirst 8 = .ok (.aload_n 0, 1) := by decide +kernel
theorem dX8_exchangeFirst_9 : decode cX8_exchangeFirst 9 = .ok (.getfield 18, 3) := by decide +kernel
theorem dX8_exchangeAll_0 : decode cX8_exchangeAll 0 = .ok (.iconst 0, 1) := by decide +kernel
theorem dX8_exchangeAll_1 : decode cX8_exchangeAll 1 = .ok (.istore_n 1, 1) := by decide +kernel
theorem dX8_exchangeAll_12 : decode cX8_exchangeAll 12 = .ok (.ifCond .ne 5, 3) := by decide +kernel
theorem dX8_exchangeAll_15 : decode cX8_exchangeAll 15 = .ok (.iload_n 1, 1) := by decide +kernel
theorem dX8_exchangeAll_16 : decode cX8_exchangeAll 16 = .ok (.ireturn, 1) := by decide +kernel
theorem dX8_exchangeAll_2 : decode cX8_exchangeAll 2 = .ok (.iload_n 1, 1) := by decide +kernel
theorem dX8_exchangeAll_3 : decode cX8_exchangeAll 3 = .ok (.bipush 50, 2) := by decide +kernel
theorem dX8_exchangeAll_5 : decode cX8_exchangeAll 5 = .ok (.if_icmp .ge 18, 3) := by decide +kernel
theorem dX8_exchangeAll_8 : decode cX8_exchangeAll 8 = .ok (.aload_n 0, 1) := by decide +kernel
theorem dX8_exchangeAll_9 : decode cX8_exchangeAll 9 = .ok (.invokevirtual 83, 3) := by decide +kernel
theorem dX8_dearestToShut_0 : decode cX8_dearestToShut 0 = .ok (.aload_n 0, 1) := by decide +kernel
theorem dX8_dearestToShut_1 : decode cX8_dearestToShut 1 = .ok (.getfield 18, 3) := by decide +kernel
theorem dX8_dearestToShut_12 : decode cX8_dearestToShut 12 = .ok (.getfield 99, 3) := by decide +kernel
theorem dX8_dearestToShut_133 : decode cX8_dearestToShut 133 = .ok (.iload 5, 2) := by decide +kernel
theorem dX8_dearestToShut_135 : decode cX8_dearestToShut 135 = .ok (.ireturn, 1) := by decide +kernel
theorem dX8_dearestToShut_15 : decode cX8_dearestToShut 15 = .ok (.aload_n 2, 1) := by decide +kernel
theorem dX8_dearestToShut_16 : decode cX8_dearestToShut 16 = .ok (.getfield 28, 3) := by decide +kernel
theorem dX8_dearestToShut_19 : decode cX8_dearestToShut 19 = .ok (.getfield 102, 3) := by decide +kernel
theorem dX8_dearestToShut_22 : decode cX8_dearestToShut 22 = .ok (.isub, 1) := by decide +kernel
theorem dX8_dearestToShut_23 : decode cX8_dearestToShut 23 = .ok (.istore_n 3, 1) := by decide +kernel
theorem dX8_dearestToShut_24 : decode cX8_dearestToShut 24 = .ok (.aload_n 0, 1) := by decide +kernel
theorem dX8_dearestToShut_25 : decode cX8_dearestToShut 25 = .ok (.getfield 18, 3) := by decide +kernel
theorem dX8_dearestToShut_28 : decode cX8_dearestToShut 28 = .ok (.iload_n 1, 1) := by decide +kernel
theorem dX8_dearestToShut_29 : decode cX8_dearestToShut 29 = .ok (.invokevirtual 105, 3) := by decide +kernel
theorem dX8_dearestToShut_32 : decode cX8_dearestToShut 32 = .ok (.istore 4, 2) := by decide +kernel
theorem dX8_dearestToShut_34 : decode cX8_dearestToShut 34 = .ok (.iconst (-1), 1) := by decide +kernel
theorem dX8_dearestToShut_35 : decode cX8_dearestToShut 35 = .ok (.istore 5, 2) := by decide +kernel
theorem dX8_dearestToShut_37 : decode cX8_dearestToShut 37 = .ok (.iconst 0, 1) := by decide +kernel
theorem dX8_dearestToShut_38 : decode cX8_dearestToShut 38 = .ok (.istore 6, 2) := by decide +kernel
theorem dX8_dearestToShut_4 : decode cX8_dearestToShut 4 = .ok (.getfield 22, 3) := by decide +kernel
theorem dX8_dearestToShut_40 : decode cX8_dearestToShut 40 = .ok (.iload 6, 2) := by decide +kernel
theorem dX8_dearestToShut_42 : decode cX8_dearestToShut 42 = .ok (.aload_n 2, 1) := by decide +kernel
theorem dX8_dearestToShut_43 : decode cX8_dearestToShut 43 = .ok (.getfield 28, 3) := by decide +kernel
theorem dX8_dearestToShut_46 : decode cX8_dearestToShut 46 = .ok (.getfield 34, 3) := by decide +kernel
theorem dX8_dearestToShut_49 : decode cX8_dearestToShut 49 = .ok (.if_icmp .ge 84, 3) := by decide +kernel
theorem dX8_dearestToShut_7 : decode cX8_dearestToShut 7 = .ok (.astore_n 2, 1) := by decide +kernel
theorem dX8_dearestToShut_8 : decode cX8_dearestToShut 8 = .ok (.aload_n 2, 1) := by decide +kernel
theorem dX8_dearestToShut_9 : decode cX8_dearestToShut 9 = .ok (.getfield 28, 3) := by decide +kernel
theorem dX11_areSets_0 : decode cX11_areSets 0 = .ok (.aload_n 0, 1) := by decide +kernel
theorem dX11_areSets_1 : decode cX11_areSets 1 = .ok (.getfield 43, 3) := by decide +kernel
theorem dX11_areSets_10 : decode cX11_areSets 10 = .ok (.getfield 143, 3) := by decide +kernel
theorem dX11_areSets_13 : decode cX11_areSets 13 = .ok (.istore_n 2, 1) := by decide +kernel
theorem dX11_areSets_14 : decode cX11_areSets 14 = .ok (.iconst 0, 1) := by decide +kernel
theorem dX11_areSets_15 : decode cX11_areSets 15 = .ok (.istore_n 3, 1) := by decide +kernel
theorem dX11_areSets_16 : decode cX11_areSets 16 = .ok (.iload_n 3, 1) := by decide +kernel
theorem dX11_areSets_17 : decode cX11_areSets 17 = .ok (.iload_n 2, 1) := by decide +kernel
theorem dX11_areSets_18 : decode cX11_areSets 18 = .ok (.if_icmp .ge 37, 3) := by decide +kernel
theorem dX11_areSets_4 : decode cX11_areSets 4 = .ok (.getfield 121, 3) := by decide +kernel
theorem dX11_areSets_55 : decode cX11_areSets 55 = .ok (.iconst 1, 1) := by decide +kernel
theorem dX11_areSets_56 : decode cX11_areSets 56 = .ok (.ireturn, 1) := by decide +kernel
theorem dX11_areSets_7 : decode cX11_areSets 7 = .ok (.getfield 139, 3) := by decide +kernel
theorem dX11_takeSets_0 : decode cX11_takeSets 0 = .ok (.aload_n 0, 1) := by decide +kernel
theorem dX11_takeSets_1 : decode cX11_takeSets 1 = .ok (.getfield 43, 3) := by decide +kernel
theorem dX11_takeSets_10 : decode cX11_takeSets 10 = .ok (.getfield 143, 3) := by decide +kernel
theorem dX11_takeSets_13 : decode cX11_takeSets 13 = .ok (.istore_n 2, 1) := by decide +kernel
theorem dX11_takeSets_14 : decode cX11_takeSets 14 = .ok (.iconst 0, 1) := by decide +kernel
theorem dX11_takeSets_15 : decode cX11_takeSets 15 = .ok (.istore_n 3, 1) := by decide +kernel
theorem dX11_takeSets_16 : decode cX11_takeSets 16 = .ok (.iload_n 3, 1) := by decide +kernel
theorem dX11_takeSets_17 : decode cX11_takeSets 17 = .ok (.iload_n 2, 1) := by decide +kernel
theorem dX11_takeSets_18 : decode cX11_takeSets 18 = .ok (.if_icmp .ge 37, 3) := by decide +kernel
theorem dX11_takeSets_4 : decode cX11_takeSets 4 = .ok (.getfield 121, 3) := by decide +kernel
theorem dX11_takeSets_55 : decode cX11_takeSets 55 = .ok (.return_, 1) := by decide +kernel
theorem dX11_takeSets_7 : decode cX11_takeSets 7 = .ok (.getfield 139, 3) := by decide +kernel
end
section
set_option maxHeartbeats 4000000 in
set_option maxRecDepth 100000 in
theorem k_X11_isBelow (l : Launch) (G : Gx) (a : Int32) (b : Int32)  : CtI (S := Unit) l yX11_isBelow cX11_isBelow 2 (some .boolean) (rmD 1 0 0) G [.int a, .int b] [] (fun r _ => r = isB a b) (fun _ => []) := by
  refine ctI_of (own := RX11) (by decide +kernel) rfl (Nat.le_of_ble_eq_true rfl) ?_
  intro p e s m below meth c A ls F hr hlk hnm hK hP hD hA hS hl
  have hx := F.1
  have hb := F.2.1
  have hown := F.2.2.2.1
  have hl : lv_has ls 2 [(0, .int a), (1, .int b)] := hl
  refine lv_iload_n hx hb dX11_isBelow_0 rfl (lv_at hl 0 rfl) ?_
  refine lv_if_lt (tgt := 13) hx hb dX11_isBelow_1 (by decide) (fun c1 => ?_) (fun c1 => ?_)
  · refine lv_iconst (v := 0) hx hb dX11_isBelow_13 (by decide) ?_
    exact r_z F hr hlk hP hD hS () [] rfl rfl (by simp [isB, c1]) dX11_isBelow_14 (Nat.le_of_ble_eq_true rfl) (Nat.le_of_ble_eq_true rfl) (by decide)
  · refine lv_iload_n hx hb dX11_isBelow_4 rfl (lv_at hl 0 rfl) ?_
    refine lv_iload_n hx hb dX11_isBelow_5 rfl (lv_at hl 1 rfl) ?_
    refine lv_icmp_ge (tgt := 13) hx hb dX11_isBelow_6 (by decide) (fun c2 => ?_) (fun c2 => ?_)
    · refine lv_iconst (v := 0) hx hb dX11_isBelow_13 (by decide) ?_
      exact r_z F hr hlk hP hD hS () [] rfl rfl (by simp [isB, c1, c2]) dX11_isBelow_14 (Nat.le_of_ble_eq_true rfl) (Nat.le_of_ble_eq_true rfl) (by decide)
    · refine lv_iconst (v := 1) hx hb dX11_isBelow_9 (by decide) ?_
      refine lv_goto (tgt := 14) hx hb dX11_isBelow_10 (by decide) ?_
      exact r_z F hr hlk hP hD hS () [] rfl rfl (by simp [isB, c1, c2]) dX11_isBelow_14 (Nat.le_of_ble_eq_true rfl) (Nat.le_of_ble_eq_true rfl) (by decide)
set_option maxHeartbeats 4000000 in
set_option maxRecDepth 100000 in
theorem k_X11_isDay (l : Launch) (G : Gx) (a : Int32)  : CtI (S := Unit) l yX11_isDay cX11_isDay 1 (some .boolean) (rmD 2 0 0) G [.int a] [] (fun r _ => r = isB a 5) (fun _ => []) := by
  refine ctI_of (own := RX11) (by decide +kernel) rfl (Nat.le_of_ble_eq_true rfl) ?_
  intro p e s m below meth c A ls F hr hlk hnm hK hP hD hA hS hl
  have hx := F.1
  have hb := F.2.1
  have hown := F.2.2.2.1
  have hl : lv_has ls 1 [(0, .int a)] := hl
  refine lv_iload_n hx hb dX11_isDay_0 rfl (lv_at hl 0 rfl) ?_
  refine lv_iconst (v := 5) hx hb dX11_isDay_1 (by decide) ?_
  refine csi (wr := []) (As := [.int a, .int 5]) (rest := []) (k1 := 0) (s1 := 0) F hK hP hD hS hA (k_X11_isBelow l G a 5) kmS_X11_isBelow mlX11_169 ⟨(Nat.le_of_ble_eq_true rfl), (Nat.le_of_ble_eq_true rfl)⟩ [] [] rfl rfl rfl rfl (by decide) hl.1 rfl (Nat.le_of_ble_eq_true rfl) dX11_isDay_2 ⟨(Nat.le_of_ble_eq_true rfl), (Nat.le_of_ble_eq_true rfl)⟩ rfl rfl (fun r2 u1 H locs hwr2 (hP : va_P G.1 vwCl [] H) (hD : va_D A []) hS => ?_)
  subst hwr2
  exact r_z F hr hlk hP hD hS () [] rfl rfl rfl dX11_isDay_5 (Nat.le_of_ble_eq_true rfl) (Nat.le_of_ble_eq_true rfl) (nar_isB _ _)
set_option maxHeartbeats 4000000 in
set_option maxRecDepth 100000 in
theorem k_X11_isPart (l : Launch) (G : Gx) (a : Int32)  : CtI (S := Unit) l yX11_isPart cX11_isPart 1 (some .boolean) (rmD 1 0 0) G [.int a] [] (fun r _ => r = isP a) (fun _ => []) := by
  refine ctI_of (own := RX11) (by decide +kernel) rfl (Nat.le_of_ble_eq_true rfl) ?_
  intro p e s m below meth c A ls F hr hlk hnm hK hP hD hA hS hl
  have hx := F.1
  have hb := F.2.1
  have hown := F.2.2.2.1
  have hl : lv_has ls 1 [(0, .int a)] := hl
  refine lv_iload_n hx hb dX11_isPart_0 rfl (lv_at hl 0 rfl) ?_
  refine lv_if_lt (tgt := 14) hx hb dX11_isPart_1 (by decide) (fun c1 => ?_) (fun c1 => ?_)
  · refine lv_iconst (v := 0) hx hb dX11_isPart_14 (by decide) ?_
    exact r_z F hr hlk hP hD hS () [] rfl rfl (by simp [isP, c1]) dX11_isPart_15 (Nat.le_of_ble_eq_true rfl) (Nat.le_of_ble_eq_true rfl) (by decide)
  · refine lv_iload_n hx hb dX11_isPart_4 rfl (lv_at hl 0 rfl) ?_
    refine lv_bipush (v := 100) hx hb dX11_isPart_5 (by decide) ?_
    refine lv_icmp_gt (tgt := 14) hx hb dX11_isPart_7 (by decide) (fun c2 => ?_) (fun c2 => ?_)
    · refine lv_iconst (v := 0) hx hb dX11_isPart_14 (by decide) ?_
      exact r_z F hr hlk hP hD hS () [] rfl rfl (by simp [isP, c1, c2]) dX11_isPart_15 (Nat.le_of_ble_eq_true rfl) (Nat.le_of_ble_eq_true rfl) (by decide)
    · refine lv_iconst (v := 1) hx hb dX11_isPart_10 (by decide) ?_
      refine lv_goto (tgt := 15) hx hb dX11_isPart_11 (by decide) ?_
      exact r_z F hr hlk hP hD hS () [] rfl rfl (by simp [isP, c1, c2]) dX11_isPart_15 (Nat.le_of_ble_eq_true rfl) (Nat.le_of_ble_eq_true rfl) (by decide)
set_option maxHeartbeats 4000000 in
set_option maxRecDepth 100000 in
theorem k_X11_isPerson (l : Launch) (G : Gx) (x : Nat) (a : Int32) (x_0 : Nat) (sp : Nat) (stm : Nat) (pl : Nat) (sk : Nat) (se : Nat) (ch : Nat) (x_11 : Nat) (x_13 : Nat) (ho : Nat) (pl_1 : Nat) (pl_5 : Nat) (fl : Nat) (pe : Nat) (ru : Nat) (ho_4 : Nat) (ho_5 : Nat) (ho_6 : Nat) (ho_8 : Nat) (ho_9 : Nat) (ho_10 : Nat) (ho_11 : Nat) (ho_12 : Nat) (pe_1 : Nat) (pe_2 : Nat) (pe_3 : Nat) (pe_4 : Nat) (pe_5 : Nat) (pe_6 : Nat) (pe_7 : Nat) (pe_8 : Nat) (pe_9 : Nat) (pe_10 : Nat)  : CtI (S := Unit) l yX11_isPerson cX11_isPerson 2 (some .boolean) (rmD 2 0 0) G [.ref x, .int a] [(x, .inr (11, [.ref x_0, .int 0, .ref sp, .ref stm, .ref pl, .ref sk, .ref se, .ref ch, .int 0, .int (-1), .long 1, .ref x_11, .int 0, .ref x_13])), (pl, .inr (4, [.ref ho, .ref pl_1, .int 0, .int (-1), .int (-1), .ref pl_5])), (ho, .inr (2, [.ref fl, .ref pe, .ref ru, .int 0, .ref ho_4, .ref ho_5, .ref ho_6, .int 0, .ref ho_8, .ref ho_9, .ref ho_10, .ref ho_11, .ref ho_12, .int 50])), (pe, .inr (3, [.int 0, .ref pe_1, .ref pe_2, .ref pe_3, .ref pe_4, .ref pe_5, .ref pe_6, .ref pe_7, .ref pe_8, .ref pe_9, .ref pe_10]))] (fun r _ => r = 0) (fun _ => [(x, .inr (11, [.ref x_0, .int 0, .ref sp, .ref stm, .ref pl, .ref sk, .ref se, .ref ch, .int 0, .int (-1), .long 1, .ref x_11, .int 0, .ref x_13])), (pl, .inr (4, [.ref ho, .ref pl_1, .int 0, .int (-1), .int (-1), .ref pl_5])), (ho, .inr (2, [.ref fl, .ref pe, .ref ru, .int 0, .ref ho_4, .ref ho_5, .ref ho_6, .int 0, .ref ho_8, .ref ho_9, .ref ho_10, .ref ho_11, .ref ho_12, .int 50])), (pe, .inr (3, [.int 0, .ref pe_1, .ref pe_2, .ref pe_3, .ref pe_4, .ref pe_5, .ref pe_6, .ref pe_7, .ref pe_8, .ref pe_9, .ref pe_10]))]) := by
  refine ctI_of (own := RX11) (by decide +kernel) rfl (Nat.le_of_ble_eq_true rfl) ?_
  intro p e s m below meth c A ls F hr hlk hnm hK hP hD hA hS hl
  have hx := F.1
  have hb := F.2.1
  have hown := F.2.2.2.1
  have hl : lv_has ls 2 [(0, .ref x), (1, .int a)] := hl
  refine lv_iload_n hx hb dX11_isPerson_0 rfl (lv_at hl 1 rfl) ?_
  refine lv_aload_n hx hb dX11_isPerson_1 rfl (lv_at hl 0 rfl) ?_
  refine g_get F hK hP 0 rfl clX11 4 (by decide) flX11_43 rfl dX11_isPerson_2 ?_
  refine g_get F hK hP 1 rfl clX4 0 (by decide) flX11_121 rfl dX11_isPerson_5 ?_
  refine g_get F hK hP 2 rfl clX2 1 (by decide) flX11_139 rfl dX11_isPerson_8 ?_
  refine g_get F hK hP 3 rfl clX3 0 (by decide) flX11_143 rfl dX11_isPerson_11 ?_
  refine csi (wr := [(x, .inr (11, [.ref x_0, .int 0, .ref sp, .ref stm, .ref pl, .ref sk, .ref se, .ref ch, .int 0, .int (-1), .long 1, .ref x_11, .int 0, .ref x_13])), (pl, .inr (4, [.ref ho, .ref pl_1, .int 0, .int (-1), .int (-1), .ref pl_5])), (ho, .inr (2, [.ref fl, .ref pe, .ref ru, .int 0, .ref ho_4, .ref ho_5, .ref ho_6, .int 0, .ref ho_8, .ref ho_9, .ref ho_10, .ref ho_11, .ref ho_12, .int 50])), (pe, .inr (3, [.int 0, .ref pe_1, .ref pe_2, .ref pe_3, .ref pe_4, .ref pe_5, .ref pe_6, .ref pe_7, .ref pe_8, .ref pe_9, .ref pe_10]))]) (As := [.int a, .int 0]) (rest := []) (k1 := 0) (s1 := 0) F hK hP hD hS hA (k_X11_isBelow l G a 0) kmS_X11_isBelow mlX11_169 ⟨(Nat.le_of_ble_eq_true rfl), (Nat.le_of_ble_eq_true rfl)⟩ [] [0, 1, 2, 3] rfl rfl rfl rfl (by decide) hl.1 rfl (Nat.le_of_ble_eq_true rfl) dX11_isPerson_14 ⟨(Nat.le_of_ble_eq_true rfl), (Nat.le_of_ble_eq_true rfl)⟩ rfl rfl (fun r2 u1 H locs hwr2 (hP : va_P G.1 vwCl [(x, .inr (11, [.ref x_0, .int 0, .ref sp, .ref stm, .ref pl, .ref sk, .ref se, .ref ch, .int 0, .int (-1), .long 1, .ref x_11, .int 0, .ref x_13])), (pl, .inr (4, [.ref ho, .ref pl_1, .int 0, .int (-1), .int (-1), .ref pl_5])), (ho, .inr (2, [.ref fl, .ref pe, .ref ru, .int 0, .ref ho_4, .ref ho_5, .ref ho_6, .int 0, .ref ho_8, .ref ho_9, .ref ho_10, .ref ho_11, .ref ho_12, .int 50])), (pe, .inr (3, [.int 0, .ref pe_1, .ref pe_2, .ref pe_3, .ref pe_4, .ref pe_5, .ref pe_6, .ref pe_7, .ref pe_8, .ref pe_9, .ref pe_10]))] H) (hD : va_D A [(x, .inr (11, [.ref x_0, .int 0, .ref sp, .ref stm, .ref pl, .ref sk, .ref se, .ref ch, .int 0, .int (-1), .long 1, .ref x_11, .int 0, .ref x_13])), (pl, .inr (4, [.ref ho, .ref pl_1, .int 0, .int (-1), .int (-1), .ref pl_5])), (ho, .inr (2, [.ref fl, .ref pe, .ref ru, .int 0, .ref ho_4, .ref ho_5, .ref ho_6, .int 0, .ref ho_8, .ref ho_9, .ref ho_10, .ref ho_11, .ref ho_12, .int 50])), (pe, .inr (3, [.int 0, .ref pe_1, .ref pe_2, .ref pe_3, .ref pe_4, .ref pe_5, .ref pe_6, .ref pe_7, .ref pe_8, .ref pe_9, .ref pe_10]))]) hS => ?_)
  subst hwr2
  refine cst_i (y := 0) (isB_0 _) ?_
  exact r_z F hr hlk hP hD hS () [0, 1, 2, 3] rfl rfl rfl dX11_isPerson_17 (Nat.le_of_ble_eq_true rfl) (Nat.le_of_ble_eq_true rfl) (by decide)
set_option maxHeartbeats 4000000 in
set_option maxRecDepth 100000 in
theorem k_X11_areTwo (l : Launch) (G : Gx) (x : Nat) (a : Int32) (b : Int32) (x_0 : Nat) (sp : Nat) (stm : Nat) (pl : Nat) (sk : Nat) (se : Nat) (ch : Nat) (x_11 : Nat) (x_13 : Nat) (ho : Nat) (pl_1 : Nat) (pl_5 : Nat) (fl : Nat) (pe : Nat) (ru : Nat) (ho_4 : Nat) (ho_5 : Nat) (ho_6 : Nat) (ho_8 : Nat) (ho_9 : Nat) (ho_10 : Nat) (ho_11 : Nat) (ho_12 : Nat) (pe_1 : Nat) (pe_2 : Nat) (pe_3 : Nat) (pe_4 : Nat) (pe_5 : Nat) (pe_6 : Nat) (pe_7 : Nat) (pe_8 : Nat) (pe_9 : Nat) (pe_10 : Nat)  : CtI (S := Unit) l yX11_areTwo cX11_areTwo 3 (some .boolean) (rmD 3 0 0) G [.ref x, .int a, .int b] [(x, .inr (11, [.ref x_0, .int 0, .ref sp, .ref stm, .ref pl, .ref sk, .ref se, .ref ch, .int 0, .int (-1), .long 1, .ref x_11, .int 0, .ref x_13])), (pl, .inr (4, [.ref ho, .ref pl_1, .int 0, .int (-1), .int (-1), .ref pl_5])), (ho, .inr (2, [.ref fl, .ref pe, .ref ru, .int 0, .ref ho_4, .ref ho_5, .ref ho_6, .int 0, .ref ho_8, .ref ho_9, .ref ho_10, .ref ho_11, .ref ho_12, .int 50])), (pe, .inr (3, [.int 0, .ref pe_1, .ref pe_2, .ref pe_3, .ref pe_4, .ref pe_5, .ref pe_6, .ref pe_7, .ref pe_8, .ref pe_9, .ref pe_10]))] (fun r _ => r = 0) (fun _ => [(x, .inr (11, [.ref x_0, .int 0, .ref sp, .ref stm, .ref pl, .ref sk, .ref se, .ref ch, .int 0, .int (-1), .long 1, .ref x_11, .int 0, .ref x_13])), (pl, .inr (4, [.ref ho, .ref pl_1, .int 0, .int (-1), .int (-1), .ref pl_5])), (ho, .inr (2, [.ref fl, .ref pe, .ref ru, .int 0, .ref ho_4, .ref ho_5, .ref ho_6, .int 0, .ref ho_8, .ref ho_9, .ref ho_10, .ref ho_11, .ref ho_12, .int 50])), (pe, .inr (3, [.int 0, .ref pe_1, .ref pe_2, .ref pe_3, .ref pe_4, .ref pe_5, .ref pe_6, .ref pe_7, .ref pe_8, .ref pe_9, .ref pe_10]))]) := by
  refine ctI_of (own := RX11) (by decide +kernel) rfl (Nat.le_of_ble_eq_true rfl) ?_
  intro p e s m below meth c A ls F hr hlk hnm hK hP hD hA hS hl
  have hx := F.1
  have hb := F.2.1
  have hown := F.2.2.2.1
  have hl : lv_has ls 3 [(0, .ref x), (1, .int a), (2, .int b)] := hl
  refine lv_aload_n hx hb dX11_areTwo_0 rfl (lv_at hl 0 rfl) ?_
  refine lv_iload_n hx hb dX11_areTwo_1 rfl (lv_at hl 1 rfl) ?_
  refine cvi (wr := []) (As := [.int a]) (rest := []) (b := x) (k1 := 0) (s1 := 0) F hK hP hD hS hA (k_X11_isPerson l G x a x_0 sp stm pl sk se ch x_11 x_13 ho pl_1 pl_5 fl pe ru ho_4 ho_5 ho_6 ho_8 ho_9 ho_10 ho_11 ho_12 pe_1 pe_2 pe_3 pe_4 pe_5 pe_6 pe_7 pe_8 pe_9 pe_10) kmV_X11_isPerson mlX11_184 clX11 rfl 0 rfl ⟨(Nat.le_of_ble_eq_true rfl), (Nat.le_of_ble_eq_true rfl)⟩ [0, 1, 2, 3] [] rfl rfl rfl rfl (by decide) hl.1 rfl (Nat.le_of_ble_eq_true rfl) dX11_areTwo_2 ⟨(Nat.le_of_ble_eq_true rfl), (Nat.le_of_ble_eq_true rfl)⟩ rfl rfl (fun r2 u1 H locs hwr2 (hP : va_P G.1 vwCl [(x, .inr (11, [.ref x_0, .int 0, .ref sp, .ref stm, .ref pl, .ref sk, .ref se, .ref ch, .int 0, .int (-1), .long 1, .ref x_11, .int 0, .ref x_13])), (pl, .inr (4, [.ref ho, .ref pl_1, .int 0, .int (-1), .int (-1), .ref pl_5])), (ho, .inr (2, [.ref fl, .ref pe, .ref ru, .int 0, .ref ho_4, .ref ho_5, .ref ho_6, .int 0, .ref ho_8, .ref ho_9, .ref ho_10, .ref ho_11, .ref ho_12, .int 50])), (pe, .inr (3, [.int 0, .ref pe_1, .ref pe_2, .ref pe_3, .ref pe_4, .ref pe_5, .ref pe_6, .ref pe_7, .ref pe_8, .ref pe_9, .ref pe_10]))] H) (hD : va_D A [(x, .inr (11, [.ref x_0, .int 0, .ref sp, .ref stm, .ref pl, .ref sk, .ref se, .ref ch, .int 0, .int (-1), .long 1, .ref x_11, .int 0, .ref x_13])), (pl, .inr (4, [.ref ho, .ref pl_1, .int 0, .int (-1), .int (-1), .ref pl_5])), (ho, .inr (2, [.ref fl, .ref pe, .ref ru, .int 0, .ref ho_4, .ref ho_5, .ref ho_6, .int 0, .ref ho_8, .ref ho_9, .ref ho_10, .ref ho_11, .ref ho_12, .int 50])), (pe, .inr (3, [.int 0, .ref pe_1, .ref pe_2, .ref pe_3, .ref pe_4, .ref pe_5, .ref pe_6, .ref pe_7, .ref pe_8, .ref pe_9, .ref pe_10]))]) hS => ?_)
  subst hwr2
  refine lv_if_eq (tgt := 25) hx hb dX11_areTwo_5 (by decide) (fun _ => ?_) (fun h_ => absurd (by decide +kernel) h_)
  refine lv_iconst (v := 0) hx hb dX11_areTwo_25 (by decide) ?_
  exact r_z F hr hlk hP hD hS () [0, 1, 2, 3] rfl rfl rfl dX11_areTwo_26 (Nat.le_of_ble_eq_true rfl) (Nat.le_of_ble_eq_true rfl) (by decide)
set_option maxHeartbeats 4000000 in
set_option maxRecDepth 100000 in
theorem k_X11_refuse (l : Launch) (G : Gx) (x : Nat) (a : Int32) (x_0 : Nat) (sp : Nat) (stm : Nat) (pl : Nat) (sk : Nat) (se : Nat) (ch : Nat) (x_11 : Nat) (x_13 : Nat) (hk : vp_in a 6) : CtI (S := Unit) l yX11_refuse cX11_refuse 2 (some .int) (rmD 1 0 0) G [.ref x, .int a] [(x, .inr (11, [.ref x_0, .int 0, .ref sp, .ref stm, .ref pl, .ref sk, .ref se, .ref ch, .int 0, .int (-1), .long 1, .ref x_11, .int 0, .ref x_13])), (x_13, .inl (G.2.1, 6, .inl (fun _ => 0)))] (fun r _ => r = (-1)) (fun _ => [(x, .inr (11, [.ref x_0, .int 0, .ref sp, .ref stm, .ref pl, .ref sk, .ref se, .ref ch, .int 0, .int (-1), .long 1, .ref x_11, .int 0, .ref x_13]))]) := by
  refine ctI_of (own := RX11) (by decide +kernel) rfl (Nat.le_of_ble_eq_true rfl) ?_
  intro p e s m below meth c A ls F hr hlk hnm hK hP hD hA hS hl
  have hx := F.1
  have hb := F.2.1
  have hown := F.2.2.2.1
  have hl : lv_has ls 2 [(0, .ref x), (1, .int a)] := hl
  refine lv_aload_n hx hb dX11_refuse_0 rfl (lv_at hl 0 rfl) ?_
  refine g_get F hK hP 0 rfl clX11 13 (by decide) flX11_86 rfl dX11_refuse_1 ?_
  refine lv_iload_n hx hb dX11_refuse_4 rfl (lv_at hl 1 rfl) ?_
  refine lv_dup2_11 hx hb dX11_refuse_5 rfl rfl ?_
  refine g_iald (v := 0) F hK hP 1 rfl hk dX11_refuse_6 rfl ?_
  refine lv_iconst (v := 1) hx hb dX11_refuse_7 (by decide) ?_
  refine lv_iadd hx hb dX11_refuse_8 ?_
  refine cst_i (y := 1) (by decide +kernel) ?_
  refine g_iast F hK hP hD hS 1 rfl hk dX11_refuse_9 (fun f_ => [(x, .inr (11, [.ref x_0, .int 0, .ref sp, .ref stm, .ref pl, .ref sk, .ref se, .ref ch, .int 0, .int (-1), .long 1, .ref x_11, .int 0, .ref x_13])), (x_13, .inl (G.2.1, 6, .inl f_))]) (fun _ => rfl) (fun f1 H locs ef1 (hP : va_P G.1 vwCl [(x, .inr (11, [.ref x_0, .int 0, .ref sp, .ref stm, .ref pl, .ref sk, .ref se, .ref ch, .int 0, .int (-1), .long 1, .ref x_11, .int 0, .ref x_13])), (x_13, .inl (G.2.1, 6, .inl f1))] H) (hD : va_D A [(x, .inr (11, [.ref x_0, .int 0, .ref sp, .ref stm, .ref pl, .ref sk, .ref se, .ref ch, .int 0, .int (-1), .long 1, .ref x_11, .int 0, .ref x_13])), (x_13, .inl (G.2.1, 6, .inl f1))]) hS => ?_)
  refine lv_iconst (v := (-1)) hx hb dX11_refuse_10 (by decide) ?_
  exact r_i F hr hlk hP hD hS () [0] rfl rfl rfl dX11_refuse_11 (Nat.le_of_ble_eq_true rfl) (Nat.le_of_ble_eq_true rfl)
set_option maxHeartbeats 4000000 in
set_option maxRecDepth 100000 in
theorem k_X2_meetingTeams (l : Launch) (G : Gx) (ho : Nat) (fl : Nat) (pe : Nat) (ru : Nat) (ho_4 : Nat) (ho_5 : Nat) (ho_6 : Nat) (ho_8 : Nat) (ho_9 : Nat) (ho_10 : Nat) (ho_11 : Nat) (ho_12 : Nat)  : CtI (S := Unit) l yX2_meetingTeams cX2_meetingTeams 3 (some .int) (rmD 1 0 0) G [.ref ho] [(ho, .inr (2, [.ref fl, .ref pe, .ref ru, .int 0, .ref ho_4, .ref ho_5, .ref ho_6, .int 0, .ref ho_8, .ref ho_9, .ref ho_10, .ref ho_11, .ref ho_12, .int 50]))] (fun r _ => r = 0) (fun _ => [(ho, .inr (2, [.ref fl, .ref pe, .ref ru, .int 0, .ref ho_4, .ref ho_5, .ref ho_6, .int 0, .ref ho_8, .ref ho_9, .ref ho_10, .ref ho_11, .ref ho_12, .int 50]))]) := by
  refine ctI_of (own := RX2) (by decide +kernel) rfl (Nat.le_of_ble_eq_true rfl) ?_
  intro p e s m below meth c A ls F hr hlk hnm hK hP hD hA hS hl
  have hx := F.1
  have hb := F.2.1
  have hown := F.2.2.2.1
  have hl : lv_has ls 3 [(0, .ref ho)] := hl
  refine lv_iconst (v := 0) hx hb dX2_meetingTeams_0 (by decide) ?_
  refine lv_istore_n (lv' := [(1, .int 0), (0, .ref ho)]) hx hb dX2_meetingTeams_1 rfl hl (by decide) rfl (fun ls hl => ?_)
  refine lv_iconst (v := 0) hx hb dX2_meetingTeams_2 (by decide) ?_
  refine lv_istore_n (lv' := [(2, .int 0), (1, .int 0), (0, .ref ho)]) hx hb dX2_meetingTeams_3 rfl hl (by decide) rfl (fun ls hl => ?_)
  refine lv_iload_n hx hb dX2_meetingTeams_4 rfl (lv_at hl 0 rfl) ?_
  refine lv_aload_n hx hb dX2_meetingTeams_5 rfl (lv_at hl 2 rfl) ?_
  refine g_get F hK hP 0 rfl clX2 3 (by decide) flX2_32 rfl dX2_meetingTeams_6 ?_
  refine lv_icmp_ge (tgt := 30) hx hb dX2_meetingTeams_9 (by decide) (fun _ => ?_) (fun h_ => absurd (by decide +kernel) h_)
  refine lv_iload_n hx hb dX2_meetingTeams_30 rfl (lv_at hl 1 rfl) ?_
  exact r_i F hr hlk hP hD hS () [0] rfl rfl rfl dX2_meetingTeams_31 (Nat.le_of_ble_eq_true rfl) (Nat.le_of_ble_eq_true rfl)
set_option maxHeartbeats 4000000 in
set_option maxRecDepth 100000 in
theorem k_X2_tieBound (l : Launch) (G : Gx) (ho : Nat) (fl : Nat) (pe : Nat) (ru : Nat) (ho_4 : Nat) (ho_5 : Nat) (ho_6 : Nat) (ho_8 : Nat) (ho_9 : Nat) (ho_10 : Nat) (ho_11 : Nat) (ho_12 : Nat)  : CtI (S := Unit) l yX2_tieBound cX2_tieBound 7 (some .int) (rmD 1 0 0) G [.ref ho] [(ho, .inr (2, [.ref fl, .ref pe, .ref ru, .int 0, .ref ho_4, .ref ho_5, .ref ho_6, .int 0, .ref ho_8, .ref ho_9, .ref ho_10, .ref ho_11, .ref ho_12, .int 50]))] (fun r _ => r = 0) (fun _ => [(ho, .inr (2, [.ref fl, .ref pe, .ref ru, .int 0, .ref ho_4, .ref ho_5, .ref ho_6, .int 0, .ref ho_8, .ref ho_9, .ref ho_10, .ref ho_11, .ref ho_12, .int 50]))]) := by
  refine ctI_of (own := RX2) (by decide +kernel) rfl (Nat.le_of_ble_eq_true rfl) ?_
  intro p e s m below meth c A ls F hr hlk hnm hK hP hD hA hS hl
  have hx := F.1
  have hb := F.2.1
  have hown := F.2.2.2.1
  have hl : lv_has ls 7 [(0, .ref ho)] := hl
  refine lv_iconst (v := 0) hx hb dX2_tieBound_0 (by decide) ?_
  refine lv_istore_n (lv' := [(1, .int 0), (0, .ref ho)]) hx hb dX2_tieBound_1 rfl hl (by decide) rfl (fun ls hl => ?_)
  refine lv_iconst (v := 0) hx hb dX2_tieBound_2 (by decide) ?_
  refine lv_istore_n (lv' := [(2, .int 0), (1, .int 0), (0, .ref ho)]) hx hb dX2_tieBound_3 rfl hl (by decide) rfl (fun ls hl => ?_)
  refine lv_iload_n hx hb dX2_tieBound_4 rfl (lv_at hl 0 rfl) ?_
  refine lv_aload_n hx hb dX2_tieBound_5 rfl (lv_at hl 2 rfl) ?_
  refine g_get F hK hP 0 rfl clX2 7 (by decide) flX2_47 rfl dX2_tieBound_6 ?_
  refine lv_icmp_ge (tgt := 104) hx hb dX2_tieBound_9 (by decide) (fun _ => ?_) (fun h_ => absurd (by decide +kernel) h_)
  refine lv_iload_n hx hb dX2_tieBound_104 rfl (lv_at hl 1 rfl) ?_
  exact r_i F hr hlk hP hD hS () [0] rfl rfl rfl dX2_tieBound_105 (Nat.le_of_ble_eq_true rfl) (Nat.le_of_ble_eq_true rfl)
set_option maxHeartbeats 4000000 in
set_option maxRecDepth 100000 in
theorem k_X4_inCount (l : Launch) (G : Gx) (pl : Nat) (a : Int32) (ho : Nat) (pl_1 : Nat) (pl_5 : Nat) (fl : Nat) (pe : Nat) (ru : Nat) (ho_4 : Nat) (ho_5 : Nat) (ho_6 : Nat) (ho_8 : Nat) (ho_9 : Nat) (ho_10 : Nat) (ho_11 : Nat) (ho_12 : Nat) (pe_1 : Nat) (pe_2 : Nat) (pe_3 : Nat) (pe_4 : Nat) (pe_5 : Nat) (pe_6 : Nat) (pe_7 : Nat) (pe_8 : Nat) (pe_9 : Nat) (pe_10 : Nat)  : CtI (S := Unit) l yX4_inCount cX4_inCount 4 (some .int) (rmD 1 0 0) G [.ref pl, .int a] [(pl, .inr (4, [.ref ho, .ref pl_1, .int 0, .int (-1), .int (-1), .ref pl_5])), (ho, .inr (2, [.ref fl, .ref pe, .ref ru, .int 0, .ref ho_4, .ref ho_5, .ref ho_6, .int 0, .ref ho_8, .ref ho_9, .ref ho_10, .ref ho_11, .ref ho_12, .int 50])), (pe, .inr (3, [.int 0, .ref pe_1, .ref pe_2, .ref pe_3, .ref pe_4, .ref pe_5, .ref pe_6, .ref pe_7, .ref pe_8, .ref pe_9, .ref pe_10]))] (fun r _ => r = 0) (fun _ => [(pl, .inr (4, [.ref ho, .ref pl_1, .int 0, .int (-1), .int (-1), .ref pl_5])), (ho, .inr (2, [.ref fl, .ref pe, .ref ru, .int 0, .ref ho_4, .ref ho_5, .ref ho_6, .int 0, .ref ho_8, .ref ho_9, .ref ho_10, .ref ho_11, .ref ho_12, .int 50])), (pe, .inr (3, [.int 0, .ref pe_1, .ref pe_2, .ref pe_3, .ref pe_4, .ref pe_5, .ref pe_6, .ref pe_7, .ref pe_8, .ref pe_9, .ref pe_10]))]) := by
  refine ctI_of (own := RX4) (by decide +kernel) rfl (Nat.le_of_ble_eq_true rfl) ?_
  intro p e s m below meth c A ls F hr hlk hnm hK hP hD hA hS hl
  have hx := F.1
  have hb := F.2.1
  have hown := F.2.2.2.1
  have hl : lv_has ls 4 [(0, .ref pl), (1, .int a)] := hl
  refine lv_iconst (v := 0) hx hb dX4_inCount_0 (by decide) ?_
  refine lv_istore_n (lv' := [(2, .int 0), (0, .ref pl), (1, .int a)]) hx hb dX4_inCount_1 rfl hl (by decide) rfl (fun ls hl => ?_)
  refine lv_iconst (v := 0) hx hb dX4_inCount_2 (by decide) ?_
  refine lv_istore_n (lv' := [(3, .int 0), (2, .int 0), (0, .ref pl), (1, .int a)]) hx hb dX4_inCount_3 rfl hl (by decide) rfl (fun ls hl => ?_)
  refine lv_iload_n hx hb dX4_inCount_4 rfl (lv_at hl 0 rfl) ?_
  refine lv_aload_n hx hb dX4_inCount_5 rfl (lv_at hl 2 rfl) ?_
  refine g_get F hK hP 0 rfl clX4 0 (by decide) flX4_28 rfl dX4_inCount_6 ?_
  refine g_get F hK hP 1 rfl clX2 1 (by decide) flX4_39 rfl dX4_inCount_9 ?_
  refine g_get F hK hP 2 rfl clX3 0 (by decide) flX4_45 rfl dX4_inCount_12 ?_
  refine lv_icmp_ge (tgt := 37) hx hb dX4_inCount_15 (by decide) (fun _ => ?_) (fun h_ => absurd (by decide +kernel) h_)
  refine lv_iload_n hx hb dX4_inCount_37 rfl (lv_at hl 1 rfl) ?_
  exact r_i F hr hlk hP hD hS () [0, 1, 2] rfl rfl rfl dX4_inCount_38 (Nat.le_of_ble_eq_true rfl) (Nat.le_of_ble_eq_true rfl)
set_option maxHeartbeats 4000000 in
set_option maxRecDepth 100000 in
theorem k_X4_inWithoutOwn (l : Launch) (G : Gx) (pl : Nat) (a : Int32) (ho : Nat) (pl_1 : Nat) (pl_5 : Nat) (fl : Nat) (pe : Nat) (ru : Nat) (ho_4 : Nat) (ho_5 : Nat) (ho_6 : Nat) (ho_8 : Nat) (ho_9 : Nat) (ho_10 : Nat) (ho_11 : Nat) (ho_12 : Nat) (pe_1 : Nat) (pe_2 : Nat) (pe_3 : Nat) (pe_4 : Nat) (pe_5 : Nat) (pe_6 : Nat) (pe_7 : Nat) (pe_8 : Nat) (pe_9 : Nat) (pe_10 : Nat)  : CtI (S := Unit) l yX4_inWithoutOwn cX4_inWithoutOwn 4 (some .int) (rmD 1 0 0) G [.ref pl, .int a] [(pl, .inr (4, [.ref ho, .ref pl_1, .int 0, .int (-1), .int (-1), .ref pl_5])), (ho, .inr (2, [.ref fl, .ref pe, .ref ru, .int 0, .ref ho_4, .ref ho_5, .ref ho_6, .int 0, .ref ho_8, .ref ho_9, .ref ho_10, .ref ho_11, .ref ho_12, .int 50])), (pe, .inr (3, [.int 0, .ref pe_1, .ref pe_2, .ref pe_3, .ref pe_4, .ref pe_5, .ref pe_6, .ref pe_7, .ref pe_8, .ref pe_9, .ref pe_10]))] (fun r _ => r = 0) (fun _ => [(pl, .inr (4, [.ref ho, .ref pl_1, .int 0, .int (-1), .int (-1), .ref pl_5])), (ho, .inr (2, [.ref fl, .ref pe, .ref ru, .int 0, .ref ho_4, .ref ho_5, .ref ho_6, .int 0, .ref ho_8, .ref ho_9, .ref ho_10, .ref ho_11, .ref ho_12, .int 50])), (pe, .inr (3, [.int 0, .ref pe_1, .ref pe_2, .ref pe_3, .ref pe_4, .ref pe_5, .ref pe_6, .ref pe_7, .ref pe_8, .ref pe_9, .ref pe_10]))]) := by
  refine ctI_of (own := RX4) (by decide +kernel) rfl (Nat.le_of_ble_eq_true rfl) ?_
  intro p e s m below meth c A ls F hr hlk hnm hK hP hD hA hS hl
  have hx := F.1
  have hb := F.2.1
  have hown := F.2.2.2.1
  have hl : lv_has ls 4 [(0, .ref pl), (1, .int a)] := hl
  refine lv_iconst (v := 0) hx hb dX4_inWithoutOwn_0 (by decide) ?_
  refine lv_istore_n (lv' := [(2, .int 0), (0, .ref pl), (1, .int a)]) hx hb dX4_inWithoutOwn_1 rfl hl (by decide) rfl (fun ls hl => ?_)
  refine lv_iconst (v := 0) hx hb dX4_inWithoutOwn_2 (by decide) ?_
  refine lv_istore_n (lv' := [(3, .int 0), (2, .int 0), (0, .ref pl), (1, .int a)]) hx hb dX4_inWithoutOwn_3 rfl hl (by decide) rfl (fun ls hl => ?_)
  refine lv_iload_n hx hb dX4_inWithoutOwn_4 rfl (lv_at hl 0 rfl) ?_
  refine lv_aload_n hx hb dX4_inWithoutOwn_5 rfl (lv_at hl 2 rfl) ?_
  refine g_get F hK hP 0 rfl clX4 0 (by decide) flX4_28 rfl dX4_inWithoutOwn_6 ?_
  refine g_get F hK hP 1 rfl clX2 1 (by decide) flX4_39 rfl dX4_inWithoutOwn_9 ?_
  refine g_get F hK hP 2 rfl clX3 0 (by decide) flX4_45 rfl dX4_inWithoutOwn_12 ?_
  refine lv_icmp_ge (tgt := 53) hx hb dX4_inWithoutOwn_15 (by decide) (fun _ => ?_) (fun h_ => absurd (by decide +kernel) h_)
  refine lv_iload_n hx hb dX4_inWithoutOwn_53 rfl (lv_at hl 1 rfl) ?_
  exact r_i F hr hlk hP hD hS () [0, 1, 2] rfl rfl rfl dX4_inWithoutOwn_54 (Nat.le_of_ble_eq_true rfl) (Nat.le_of_ble_eq_true rfl)
set_option maxHeartbeats 4000000 in
set_option maxRecDepth 100000 in
theorem k_X4_standing (l : Launch) (G : Gx) (pl : Nat) (a : Int32) (ho : Nat) (pl_1 : Nat) (pl_5 : Nat) (fl : Nat) (pe : Nat) (ru : Nat) (ho_4 : Nat) (ho_5 : Nat) (ho_6 : Nat) (ho_8 : Nat) (ho_9 : Nat) (ho_10 : Nat) (ho_11 : Nat) (ho_12 : Nat) (pe_1 : Nat) (pe_2 : Nat) (pe_3 : Nat) (pe_4 : Nat) (pe_5 : Nat) (pe_6 : Nat) (pe_7 : Nat) (pe_8 : Nat) (pe_9 : Nat) (pe_10 : Nat) (fl_3 : Nat) (fl_4 : Nat) (fl_5 : Nat) (fl_6 : Nat) (fl_7 : Nat)  : CtI (S := Unit) l yX4_standing cX4_standing 2 (some .int) (rmD 2 0 0) G [.ref pl, .int a] [(pl, .inr (4, [.ref ho, .ref pl_1, .int 0, .int (-1), .int (-1), .ref pl_5])), (ho, .inr (2, [.ref fl, .ref pe, .ref ru, .int 0, .ref ho_4, .ref ho_5, .ref ho_6, .int 0, .ref ho_8, .ref ho_9, .ref ho_10, .ref ho_11, .ref ho_12, .int 50])), (pe, .inr (3, [.int 0, .ref pe_1, .ref pe_2, .ref pe_3, .ref pe_4, .ref pe_5, .ref pe_6, .ref pe_7, .ref pe_8, .ref pe_9, .ref pe_10])), (fl, .inr (1, [.int 0, .int 0, .int 0, .ref fl_3, .ref fl_4, .ref fl_5, .ref fl_6, .ref fl_7]))] (fun r _ => r = 0) (fun _ => [(pl, .inr (4, [.ref ho, .ref pl_1, .int 0, .int (-1), .int (-1), .ref pl_5])), (ho, .inr (2, [.ref fl, .ref pe, .ref ru, .int 0, .ref ho_4, .ref ho_5, .ref ho_6, .int 0, .ref ho_8, .ref ho_9, .ref ho_10, .ref ho_11, .ref ho_12, .int 50])), (pe, .inr (3, [.int 0, .ref pe_1, .ref pe_2, .ref pe_3, .ref pe_4, .ref pe_5, .ref pe_6, .ref pe_7, .ref pe_8, .ref pe_9, .ref pe_10])), (fl, .inr (1, [.int 0, .int 0, .int 0, .ref fl_3, .ref fl_4, .ref fl_5, .ref fl_6, .ref fl_7]))]) := by
  refine ctI_of (own := RX4) (by decide +kernel) rfl (Nat.le_of_ble_eq_true rfl) ?_
  intro p e s m below meth c A ls F hr hlk hnm hK hP hD hA hS hl
  have hx := F.1
  have hb := F.2.1
  have hown := F.2.2.2.1
  have hl : lv_has ls 2 [(0, .ref pl), (1, .int a)] := hl
  refine lv_iconst (v := 0) hx hb dX4_standing_0 (by decide) ?_
  refine lv_aload_n hx hb dX4_standing_1 rfl (lv_at hl 0 rfl) ?_
  refine lv_iload_n hx hb dX4_standing_2 rfl (lv_at hl 1 rfl) ?_
  refine cvi (wr := [(fl, .inr (1, [.int 0, .int 0, .int 0, .ref fl_3, .ref fl_4, .ref fl_5, .ref fl_6, .ref fl_7]))]) (As := [.int a]) (rest := [.int 0]) (b := pl) (k1 := 0) (s1 := 0) F hK hP hD hS hA (k_X4_inWithoutOwn l G pl a ho pl_1 pl_5 fl pe ru ho_4 ho_5 ho_6 ho_8 ho_9 ho_10 ho_11 ho_12 pe_1 pe_2 pe_3 pe_4 pe_5 pe_6 pe_7 pe_8 pe_9 pe_10) kmV_X4_inWithoutOwn mlX4_53 clX4 rfl 0 rfl ⟨(Nat.le_of_ble_eq_true rfl), (Nat.le_of_ble_eq_true rfl)⟩ [0, 1, 2] [3] rfl rfl rfl rfl (by decide) hl.1 rfl (Nat.le_of_ble_eq_true rfl) dX4_standing_3 ⟨(Nat.le_of_ble_eq_true rfl), (Nat.le_of_ble_eq_true rfl)⟩ rfl rfl (fun r2 u1 H locs hwr2 (hP : va_P G.1 vwCl [(fl, .inr (1, [.int 0, .int 0, .int 0, .ref fl_3, .ref fl_4, .ref fl_5, .ref fl_6, .ref fl_7])), (pl, .inr (4, [.ref ho, .ref pl_1, .int 0, .int (-1), .int (-1), .ref pl_5])), (ho, .inr (2, [.ref fl, .ref pe, .ref ru, .int 0, .ref ho_4, .ref ho_5, .ref ho_6, .int 0, .ref ho_8, .ref ho_9, .ref ho_10, .ref ho_11, .ref ho_12, .int 50])), (pe, .inr (3, [.int 0, .ref pe_1, .ref pe_2, .ref pe_3, .ref pe_4, .ref pe_5, .ref pe_6, .ref pe_7, .ref pe_8, .ref pe_9, .ref pe_10]))] H) (hD : va_D A [(fl, .inr (1, [.int 0, .int 0, .int 0, .ref fl_3, .ref fl_4, .ref fl_5, .ref fl_6, .ref fl_7])), (pl, .inr (4, [.ref ho, .ref pl_1, .int 0, .int (-1), .int (-1), .ref pl_5])), (ho, .inr (2, [.ref fl, .ref pe, .ref ru, .int 0, .ref ho_4, .ref ho_5, .ref ho_6, .int 0, .ref ho_8, .ref ho_9, .ref ho_10, .ref ho_11, .ref ho_12, .int 50])), (pe, .inr (3, [.int 0, .ref pe_1, .ref pe_2, .ref pe_3, .ref pe_4, .ref pe_5, .ref pe_6, .ref pe_7, .ref pe_8, .ref pe_9, .ref pe_10]))]) hS => ?_)
  subst hwr2
  refine lv_aload_n hx hb dX4_standing_6 rfl (lv_at hl 0 rfl) ?_
  refine g_get F hK hP 1 rfl clX4 0 (by decide) flX4_28 rfl dX4_standing_7 ?_
  refine g_get F hK hP 2 rfl clX2 0 (by decide) flX4_57 rfl dX4_standing_10 ?_
  refine g_get F hK hP 0 rfl clX1 1 (by decide) flX4_61 rfl dX4_standing_13 ?_
  refine lv_aload_n hx hb dX4_standing_16 rfl (lv_at hl 0 rfl) ?_
  refine g_get F hK hP 1 rfl clX4 0 (by decide) flX4_28 rfl dX4_standing_17 ?_
  refine g_get F hK hP 2 rfl clX2 0 (by decide) flX4_57 rfl dX4_standing_20 ?_
  refine g_get F hK hP 0 rfl clX1 2 (by decide) flX4_66 rfl dX4_standing_23 ?_
  refine lv_isub hx hb dX4_standing_26 ?_
  refine cst_i (y := 0) (by decide +kernel) ?_
  refine lv_isub hx hb dX4_standing_27 ?_
  refine cst_i (y := 0) (by decide +kernel) ?_
  refine va_mmax hx hb (F.2.2.1.trans hl.1.symm) hown (F.2.2.2.2 _ mmX4_max) (F.2.2.2.2 _ mms_max) (F.2.2.2.2 _ ini_J9) (F.2.2.2.2 _ mmc_max) (Nat.le_of_ble_eq_true rfl) (Nat.le_of_ble_eq_true rfl) (Nat.le_of_ble_eq_true rfl) (Nat.le_of_ble_eq_true rfl) dX4_standing_28 ?_
  refine cst_i (y := 0) (by decide +kernel) ?_
  exact r_i F hr hlk hP hD hS () [1, 2, 3, 0] rfl rfl rfl dX4_standing_31 (Nat.le_of_ble_eq_true rfl) (Nat.le_of_ble_eq_true rfl)
set_option maxHeartbeats 4000000 in
set_option maxRecDepth 100000 in
theorem k_X4_findForbiddenDay (l : Launch) (G : Gx) (pl : Nat) (ho : Nat) (pl_1 : Nat) (pl_5 : Nat) (fl : Nat) (pe : Nat) (ru : Nat) (ho_4 : Nat) (ho_5 : Nat) (ho_6 : Nat) (ho_8 : Nat) (ho_9 : Nat) (ho_10 : Nat) (ho_11 : Nat) (ho_12 : Nat) (pe_1 : Nat) (pe_2 : Nat) (pe_3 : Nat) (pe_4 : Nat) (pe_5 : Nat) (pe_6 : Nat) (pe_7 : Nat) (pe_8 : Nat) (pe_9 : Nat) (pe_10 : Nat)  : CtV (S := Unit) l yX4_findForbiddenDay cX4_findForbiddenDay 4 none (rmD 1 0 0) G [.ref pl] [(pl, .inr (4, [.ref ho, .ref pl_1, .int 0, .int (-1), .int (-1), .ref pl_5])), (ho, .inr (2, [.ref fl, .ref pe, .ref ru, .int 0, .ref ho_4, .ref ho_5, .ref ho_6, .int 0, .ref ho_8, .ref ho_9, .ref ho_10, .ref ho_11, .ref ho_12, .int 50])), (pe, .inr (3, [.int 0, .ref pe_1, .ref pe_2, .ref pe_3, .ref pe_4, .ref pe_5, .ref pe_6, .ref pe_7, .ref pe_8, .ref pe_9, .ref pe_10]))] (fun _ => True) (fun _ => [(pl, .inr (4, [.ref ho, .ref pl_1, .int 0, .int (-1), .int (-1), .ref pl_5])), (ho, .inr (2, [.ref fl, .ref pe, .ref ru, .int 0, .ref ho_4, .ref ho_5, .ref ho_6, .int 0, .ref ho_8, .ref ho_9, .ref ho_10, .ref ho_11, .ref ho_12, .int 50])), (pe, .inr (3, [.int 0, .ref pe_1, .ref pe_2, .ref pe_3, .ref pe_4, .ref pe_5, .ref pe_6, .ref pe_7, .ref pe_8, .ref pe_9, .ref pe_10]))]) := by
  refine ctV_of (own := RX4) (by decide +kernel) rfl (Nat.le_of_ble_eq_true rfl) ?_
  intro p e s m below meth c A ls F hr hlk hnm hK hP hD hA hS hl
  have hx := F.1
  have hb := F.2.1
  have hown := F.2.2.2.1
  have hl : lv_has ls 4 [(0, .ref pl)] := hl
  refine lv_iconst (v := 0) hx hb dX4_findForbiddenDay_0 (by decide) ?_
  refine lv_istore_n (lv' := [(1, .int 0), (0, .ref pl)]) hx hb dX4_findForbiddenDay_1 rfl hl (by decide) rfl (fun ls hl => ?_)
  refine lv_iload_n hx hb dX4_findForbiddenDay_2 rfl (lv_at hl 0 rfl) ?_
  refine lv_aload_n hx hb dX4_findForbiddenDay_3 rfl (lv_at hl 1 rfl) ?_
  refine g_get F hK hP 0 rfl clX4 0 (by decide) flX4_28 rfl dX4_findForbiddenDay_4 ?_
  refine g_get F hK hP 1 rfl clX2 1 (by decide) flX4_39 rfl dX4_findForbiddenDay_7 ?_
  refine g_get F hK hP 2 rfl clX3 0 (by decide) flX4_45 rfl dX4_findForbiddenDay_10 ?_
  refine lv_icmp_ge (tgt := 84) hx hb dX4_findForbiddenDay_13 (by decide) (fun _ => ?_) (fun h_ => absurd (by decide +kernel) h_)
  exact r_v F hr hlk hP hD hS () [0, 1, 2] rfl rfl trivial dX4_findForbiddenDay_84 (Nat.le_of_ble_eq_true rfl) (Nat.le_of_ble_eq_true rfl)
set_option maxHeartbeats 4000000 in
set_option maxRecDepth 100000 in
theorem k_X4_findOtherNumber (l : Launch) (G : Gx) (pl : Nat) (ho : Nat) (pl_1 : Nat) (pl_5 : Nat) (fl : Nat) (pe : Nat) (ru : Nat) (ho_4 : Nat) (ho_5 : Nat) (ho_6 : Nat) (ho_8 : Nat) (ho_9 : Nat) (ho_10 : Nat) (ho_11 : Nat) (ho_12 : Nat) (pe_1 : Nat) (pe_2 : Nat) (pe_3 : Nat) (pe_4 : Nat) (pe_5 : Nat) (pe_6 : Nat) (pe_7 : Nat) (pe_8 : Nat) (pe_9 : Nat) (pe_10 : Nat)  : CtV (S := Unit) l yX4_findOtherNumber cX4_findOtherNumber 2 none (rmD 1 0 0) G [.ref pl] [(pl, .inr (4, [.ref ho, .ref pl_1, .int 0, .int (-1), .int (-1), .ref pl_5])), (ho, .inr (2, [.ref fl, .ref pe, .ref ru, .int 0, .ref ho_4, .ref ho_5, .ref ho_6, .int 0, .ref ho_8, .ref ho_9, .ref ho_10, .ref ho_11, .ref ho_12, .int 50])), (pe, .inr (3, [.int 0, .ref pe_1, .ref pe_2, .ref pe_3, .ref pe_4, .ref pe_5, .ref pe_6, .ref pe_7, .ref pe_8, .ref pe_9, .ref pe_10]))] (fun _ => True) (fun _ => [(pl, .inr (4, [.ref ho, .ref pl_1, .int 0, .int (-1), .int (-1), .ref pl_5])), (ho, .inr (2, [.ref fl, .ref pe, .ref ru, .int 0, .ref ho_4, .ref ho_5, .ref ho_6, .int 0, .ref ho_8, .ref ho_9, .ref ho_10, .ref ho_11, .ref ho_12, .int 50])), (pe, .inr (3, [.int 0, .ref pe_1, .ref pe_2, .ref pe_3, .ref pe_4, .ref pe_5, .ref pe_6, .ref pe_7, .ref pe_8, .ref pe_9, .ref pe_10]))]) := by
  refine ctV_of (own := RX4) (by decide +kernel) rfl (Nat.le_of_ble_eq_true rfl) ?_
  intro p e s m below meth c A ls F hr hlk hnm hK hP hD hA hS hl
  have hx := F.1
  have hb := F.2.1
  have hown := F.2.2.2.1
  have hl : lv_has ls 2 [(0, .ref pl)] := hl
  refine lv_iconst (v := 0) hx hb dX4_findOtherNumber_0 (by decide) ?_
  refine lv_istore_n (lv' := [(1, .int 0), (0, .ref pl)]) hx hb dX4_findOtherNumber_1 rfl hl (by decide) rfl (fun ls hl => ?_)
  refine lv_iload_n hx hb dX4_findOtherNumber_2 rfl (lv_at hl 0 rfl) ?_
  refine lv_aload_n hx hb dX4_findOtherNumber_3 rfl (lv_at hl 1 rfl) ?_
  refine g_get F hK hP 0 rfl clX4 0 (by decide) flX4_28 rfl dX4_findOtherNumber_4 ?_
  refine g_get F hK hP 1 rfl clX2 1 (by decide) flX4_39 rfl dX4_findOtherNumber_7 ?_
  refine g_get F hK hP 2 rfl clX3 0 (by decide) flX4_45 rfl dX4_findOtherNumber_10 ?_
  refine lv_icmp_ge (tgt := 57) hx hb dX4_findOtherNumber_13 (by decide) (fun _ => ?_) (fun h_ => absurd (by decide +kernel) h_)
  exact r_v F hr hlk hP hD hS () [0, 1, 2] rfl rfl trivial dX4_findOtherNumber_57 (Nat.le_of_ble_eq_true rfl) (Nat.le_of_ble_eq_true rfl)
set_option maxHeartbeats 4000000 in
set_option maxRecDepth 100000 in
theorem k_X4_findStanding (l : Launch) (G : Gx) (pl : Nat) (ho : Nat) (pl_1 : Nat) (pl_5 : Nat) (fl : Nat) (pe : Nat) (ru : Nat) (ho_4 : Nat) (ho_5 : Nat) (ho_6 : Nat) (ho_8 : Nat) (ho_9 : Nat) (ho_10 : Nat) (ho_11 : Nat) (ho_12 : Nat) (pe_1 : Nat) (pe_2 : Nat) (pe_3 : Nat) (pe_4 : Nat) (pe_5 : Nat) (pe_6 : Nat) (pe_7 : Nat) (pe_8 : Nat) (pe_9 : Nat) (pe_10 : Nat) (fl_3 : Nat) (fl_4 : Nat) (fl_5 : Nat) (fl_6 : Nat) (fl_7 : Nat)  : CtV (S := Unit) l yX4_findStanding cX4_findStanding 2 none (rmD 3 0 0) G [.ref pl] [(pl, .inr (4, [.ref ho, .ref pl_1, .int 0, .int (-1), .int (-1), .ref pl_5])), (ho, .inr (2, [.ref fl, .ref pe, .ref ru, .int 0, .ref ho_4, .ref ho_5, .ref ho_6, .int 0, .ref ho_8, .ref ho_9, .ref ho_10, .ref ho_11, .ref ho_12, .int 50])), (pe, .inr (3, [.int 0, .ref pe_1, .ref pe_2, .ref pe_3, .ref pe_4, .ref pe_5, .ref pe_6, .ref pe_7, .ref pe_8, .ref pe_9, .ref pe_10])), (fl, .inr (1, [.int 0, .int 0, .int 0, .ref fl_3, .ref fl_4, .ref fl_5, .ref fl_6, .ref fl_7]))] (fun _ => True) (fun _ => [(pl, .inr (4, [.ref ho, .ref pl_1, .int 0, .int (-1), .int (-1), .ref pl_5])), (ho, .inr (2, [.ref fl, .ref pe, .ref ru, .int 0, .ref ho_4, .ref ho_5, .ref ho_6, .int 0, .ref ho_8, .ref ho_9, .ref ho_10, .ref ho_11, .ref ho_12, .int 50])), (pe, .inr (3, [.int 0, .ref pe_1, .ref pe_2, .ref pe_3, .ref pe_4, .ref pe_5, .ref pe_6, .ref pe_7, .ref pe_8, .ref pe_9, .ref pe_10])), (fl, .inr (1, [.int 0, .int 0, .int 0, .ref fl_3, .ref fl_4, .ref fl_5, .ref fl_6, .ref fl_7]))]) := by
  refine ctV_of (own := RX4) (by decide +kernel) rfl (Nat.le_of_ble_eq_true rfl) ?_
  intro p e s m below meth c A ls F hr hlk hnm hK hP hD hA hS hl
  have hx := F.1
  have hb := F.2.1
  have hown := F.2.2.2.1
  have hl : lv_has ls 2 [(0, .ref pl)] := hl
  refine lv_iconst (v := 0) hx hb dX4_findStanding_0 (by decide) ?_
  refine lv_istore_n (lv' := [(1, .int 0), (0, .ref pl)]) hx hb dX4_findStanding_1 rfl hl (by decide) rfl (fun ls hl => ?_)
  refine lv_iload_n hx hb dX4_findStanding_2 rfl (lv_at hl 0 rfl) ?_
  refine lv_iconst (v := 5) hx hb dX4_findStanding_3 (by decide) ?_
  refine lv_icmp_ge (tgt := 32) hx hb dX4_findStanding_4 (by decide) (fun h_ => absurd h_ (by decide +kernel)) (fun _ => ?_)
  refine lv_aload_n hx hb dX4_findStanding_7 rfl (lv_at hl 1 rfl) ?_
  refine lv_iload_n hx hb dX4_findStanding_8 rfl (lv_at hl 0 rfl) ?_
  refine cvi (wr := []) (As := [.int 0]) (rest := []) (b := pl) (k1 := 0) (s1 := 0) F hK hP hD hS hA (k_X4_standing l G pl 0 ho pl_1 pl_5 fl pe ru ho_4 ho_5 ho_6 ho_8 ho_9 ho_10 ho_11 ho_12 pe_1 pe_2 pe_3 pe_4 pe_5 pe_6 pe_7 pe_8 pe_9 pe_10 fl_3 fl_4 fl_5 fl_6 fl_7) kmV_X4_standing mlX4_101 clX4 rfl 0 rfl ⟨(Nat.le_of_ble_eq_true rfl), (Nat.le_of_ble_eq_true rfl)⟩ [0, 1, 2, 3] [] rfl rfl rfl rfl (by decide) hl.1 rfl (Nat.le_of_ble_eq_true rfl) dX4_findStanding_9 ⟨(Nat.le_of_ble_eq_true rfl), (Nat.le_of_ble_eq_true rfl)⟩ rfl rfl (fun r2 u1 H locs hwr2 (hP : va_P G.1 vwCl [(pl, .inr (4, [.ref ho, .ref pl_1, .int 0, .int (-1), .int (-1), .ref pl_5])), (ho, .inr (2, [.ref fl, .ref pe, .ref ru, .int 0, .ref ho_4, .ref ho_5, .ref ho_6, .int 0, .ref ho_8, .ref ho_9, .ref ho_10, .ref ho_11, .ref ho_12, .int 50])), (pe, .inr (3, [.int 0, .ref pe_1, .ref pe_2, .ref pe_3, .ref pe_4, .ref pe_5, .ref pe_6, .ref pe_7, .ref pe_8, .ref pe_9, .ref pe_10])), (fl, .inr (1, [.int 0, .int 0, .int 0, .ref fl_3, .ref fl_4, .ref fl_5, .ref fl_6, .ref fl_7]))] H) (hD : va_D A [(pl, .inr (4, [.ref ho, .ref pl_1, .int 0, .int (-1), .int (-1), .ref pl_5])), (ho, .inr (2, [.ref fl, .ref pe, .ref ru, .int 0, .ref ho_4, .ref ho_5, .ref ho_6, .int 0, .ref ho_8, .ref ho_9, .ref ho_10, .ref ho_11, .ref ho_12, .int 50])), (pe, .inr (3, [.int 0, .ref pe_1, .ref pe_2, .ref pe_3, .ref pe_4, .ref pe_5, .ref pe_6, .ref pe_7, .ref pe_8, .ref pe_9, .ref pe_10])), (fl, .inr (1, [.int 0, .int 0, .int 0, .ref fl_3, .ref fl_4, .ref fl_5, .ref fl_6, .ref fl_7]))]) hS => ?_)
  subst hwr2
  refine lv_if_le (tgt := 26) hx hb dX4_findStanding_12 (by decide) (fun _ => ?_) (fun h_ => absurd (by decide +kernel) h_)
  refine lv_iinc (v := 1) (lv' := [(1, .int 1), (0, .ref pl)]) hx hb dX4_findStanding_26 hl (k := 0) rfl (by decide +kernel) (by decide) rfl (fun ls hl => ?_)
  refine lv_goto (tgt := 2) hx hb dX4_findStanding_29 (by decide) ?_
  refine lv_iload_n hx hb dX4_findStanding_2 rfl (lv_at hl 0 rfl) ?_
  refine lv_iconst (v := 5) hx hb dX4_findStanding_3 (by decide) ?_
  refine lv_icmp_ge (tgt := 32) hx hb dX4_findStanding_4 (by decide) (fun h_ => absurd h_ (by decide +kernel)) (fun _ => ?_)
  refine lv_aload_n hx hb dX4_findStanding_7 rfl (lv_at hl 1 rfl) ?_
  refine lv_iload_n hx hb dX4_findStanding_8 rfl (lv_at hl 0 rfl) ?_
  refine cvi (wr := []) (As := [.int 1]) (rest := []) (b := pl) (k1 := 0) (s1 := 0) F hK hP hD hS hA (k_X4_standing l G pl 1 ho pl_1 pl_5 fl pe ru ho_4 ho_5 ho_6 ho_8 ho_9 ho_10 ho_11 ho_12 pe_1 pe_2 pe_3 pe_4 pe_5 pe_6 pe_7 pe_8 pe_9 pe_10 fl_3 fl_4 fl_5 fl_6 fl_7) kmV_X4_standing mlX4_101 clX4 rfl 0 rfl ⟨(Nat.le_of_ble_eq_true rfl), (Nat.le_of_ble_eq_true rfl)⟩ [0, 1, 2, 3] [] rfl rfl rfl rfl (by decide) hl.1 rfl (Nat.le_of_ble_eq_true rfl) dX4_findStanding_9 ⟨(Nat.le_of_ble_eq_true rfl), (Nat.le_of_ble_eq_true rfl)⟩ rfl rfl (fun r4 u3 H locs hwr4 (hP : va_P G.1 vwCl [(pl, .inr (4, [.ref ho, .ref pl_1, .int 0, .int (-1), .int (-1), .ref pl_5])), (ho, .inr (2, [.ref fl, .ref pe, .ref ru, .int 0, .ref ho_4, .ref ho_5, .ref ho_6, .int 0, .ref ho_8, .ref ho_9, .ref ho_10, .ref ho_11, .ref ho_12, .int 50])), (pe, .inr (3, [.int 0, .ref pe_1, .ref pe_2, .ref pe_3, .ref pe_4, .ref pe_5, .ref pe_6, .ref pe_7, .ref pe_8, .ref pe_9, .ref pe_10])), (fl, .inr (1, [.int 0, .int 0, .int 0, .ref fl_3, .ref fl_4, .ref fl_5, .ref fl_6, .ref fl_7]))] H) (hD : va_D A [(pl, .inr (4, [.ref ho, .ref pl_1, .int 0, .int (-1), .int (-1), .ref pl_5])), (ho, .inr (2, [.ref fl, .ref pe, .ref ru, .int 0, .ref ho_4, .ref ho_5, .ref ho_6, .int 0, .ref ho_8, .ref ho_9, .ref ho_10, .ref ho_11, .ref ho_12, .int 50])), (pe, .inr (3, [.int 0, .ref pe_1, .ref pe_2, .ref pe_3, .ref pe_4, .ref pe_5, .ref pe_6, .ref pe_7, .ref pe_8, .ref pe_9, .ref pe_10])), (fl, .inr (1, [.int 0, .int 0, .int 0, .ref fl_3, .ref fl_4, .ref fl_5, .ref fl_6, .ref fl_7]))]) hS => ?_)
  subst hwr4
  refine lv_if_le (tgt := 26) hx hb dX4_findStanding_12 (by decide) (fun _ => ?_) (fun h_ => absurd (by decide +kernel) h_)
  refine lv_iinc (v := 2) (lv' := [(1, .int 2), (0, .ref pl)]) hx hb dX4_findStanding_26 hl (k := 0) rfl (by decide +kernel) (by decide) rfl (fun ls hl => ?_)
  refine lv_goto (tgt := 2) hx hb dX4_findStanding_29 (by decide) ?_
  refine lv_iload_n hx hb dX4_findStanding_2 rfl (lv_at hl 0 rfl) ?_
  refine lv_iconst (v := 5) hx hb dX4_findStanding_3 (by decide) ?_
  refine lv_icmp_ge (tgt := 32) hx hb dX4_findStanding_4 (by decide) (fun h_ => absurd h_ (by decide +kernel)) (fun _ => ?_)
  refine lv_aload_n hx hb dX4_findStanding_7 rfl (lv_at hl 1 rfl) ?_
  refine lv_iload_n hx hb dX4_findStanding_8 rfl (lv_at hl 0 rfl) ?_
  refine cvi (wr := []) (As := [.int 2]) (rest := []) (b := pl) (k1 := 0) (s1 := 0) F hK hP hD hS hA (k_X4_standing l G pl 2 ho pl_1 pl_5 fl pe ru ho_4 ho_5 ho_6 ho_8 ho_9 ho_10 ho_11 ho_12 pe_1 pe_2 pe_3 pe_4 pe_5 pe_6 pe_7 pe_8 pe_9 pe_10 fl_3 fl_4 fl_5 fl_6 fl_7) kmV_X4_standing mlX4_101 clX4 rfl 0 rfl ⟨(Nat.le_of_ble_eq_true rfl), (Nat.le_of_ble_eq_true rfl)⟩ [0, 1, 2, 3] [] rfl rfl rfl rfl (by decide) hl.1 rfl (Nat.le_of_ble_eq_true rfl) dX4_findStanding_9 ⟨(Nat.le_of_ble_eq_true rfl), (Nat.le_of_ble_eq_true rfl)⟩ rfl rfl (fun r6 u5 H locs hwr6 (hP : va_P G.1 vwCl [(pl, .inr (4, [.ref ho, .ref pl_1, .int 0, .int (-1), .int (-1), .ref pl_5])), (ho, .inr (2, [.ref fl, .ref pe, .ref ru, .int 0, .ref ho_4, .ref ho_5, .ref ho_6, .int 0, .ref ho_8, .ref ho_9, .ref ho_10, .ref ho_11, .ref ho_12, .int 50])), (pe, .inr (3, [.int 0, .ref pe_1, .ref pe_2, .ref pe_3, .ref pe_4, .ref pe_5, .ref pe_6, .ref pe_7, .ref pe_8, .ref pe_9, .ref pe_10])), (fl, .inr (1, [.int 0, .int 0, .int 0, .ref fl_3, .ref fl_4, .ref fl_5, .ref fl_6, .ref fl_7]))] H) (hD : va_D A [(pl, .inr (4, [.ref ho, .ref pl_1, .int 0, .int (-1), .int (-1), .ref pl_5])), (ho, .inr (2, [.ref fl, .ref pe, .ref ru, .int 0, .ref ho_4, .ref ho_5, .ref ho_6, .int 0, .ref ho_8, .ref ho_9, .ref ho_10, .ref ho_11, .ref ho_12, .int 50])), (pe, .inr (3, [.int 0, .ref pe_1, .ref pe_2, .ref pe_3, .ref pe_4, .ref pe_5, .ref pe_6, .ref pe_7, .ref pe_8, .ref pe_9, .ref pe_10])), (fl, .inr (1, [.int 0, .int 0, .int 0, .ref fl_3, .ref fl_4, .ref fl_5, .ref fl_6, .ref fl_7]))]) hS => ?_)
  subst hwr6
  refine lv_if_le (tgt := 26) hx hb dX4_findStanding_12 (by decide) (fun _ => ?_) (fun h_ => absurd (by decide +kernel) h_)
  refine lv_iinc (v := 3) (lv' := [(1, .int 3), (0, .ref pl)]) hx hb dX4_findStanding_26 hl (k := 0) rfl (by decide +kernel) (by decide) rfl (fun ls hl => ?_)
  refine lv_goto (tgt := 2) hx hb dX4_findStanding_29 (by decide) ?_
  refine lv_iload_n hx hb dX4_findStanding_2 rfl (lv_at hl 0 rfl) ?_
  refine lv_iconst (v := 5) hx hb dX4_findStanding_3 (by decide) ?_
  refine lv_icmp_ge (tgt := 32) hx hb dX4_findStanding_4 (by decide) (fun h_ => absurd h_ (by decide +kernel)) (fun _ => ?_)
  refine lv_aload_n hx hb dX4_findStanding_7 rfl (lv_at hl 1 rfl) ?_
  refine lv_iload_n hx hb dX4_findStanding_8 rfl (lv_at hl 0 rfl) ?_
  refine cvi (wr := []) (As := [.int 3]) (rest := []) (b := pl) (k1 := 0) (s1 := 0) F hK hP hD hS hA (k_X4_standing l G pl 3 ho pl_1 pl_5 fl pe ru ho_4 ho_5 ho_6 ho_8 ho_9 ho_10 ho_11 ho_12 pe_1 pe_2 pe_3 pe_4 pe_5 pe_6 pe_7 pe_8 pe_9 pe_10 fl_3 fl_4 fl_5 fl_6 fl_7) kmV_X4_standing mlX4_101 clX4 rfl 0 rfl ⟨(Nat.le_of_ble_eq_true rfl), (Nat.le_of_ble_eq_true rfl)⟩ [0, 1, 2, 3] [] rfl rfl rfl rfl (by decide) hl.1 rfl (Nat.le_of_ble_eq_true rfl) dX4_findStanding_9 ⟨(Nat.le_of_ble_eq_true rfl), (Nat.le_of_ble_eq_true rfl)⟩ rfl rfl (fun r8 u7 H locs hwr8 (hP : va_P G.1 vwCl [(pl, .inr (4, [.ref ho, .ref pl_1, .int 0, .int (-1), .int (-1), .ref pl_5])), (ho, .inr (2, [.ref fl, .ref pe, .ref ru, .int 0, .ref ho_4, .ref ho_5, .ref ho_6, .int 0, .ref ho_8, .ref ho_9, .ref ho_10, .ref ho_11, .ref ho_12, .int 50])), (pe, .inr (3, [.int 0, .ref pe_1, .ref pe_2, .ref pe_3, .ref pe_4, .ref pe_5, .ref pe_6, .ref pe_7, .ref pe_8, .ref pe_9, .ref pe_10])), (fl, .inr (1, [.int 0, .int 0, .int 0, .ref fl_3, .ref fl_4, .ref fl_5, .ref fl_6, .ref fl_7]))] H) (hD : va_D A [(pl, .inr (4, [.ref ho, .ref pl_1, .int 0, .int (-1), .int (-1), .ref pl_5])), (ho, .inr (2, [.ref fl, .ref pe, .ref ru, .int 0, .ref ho_4, .ref ho_5, .ref ho_6, .int 0, .ref ho_8, .ref ho_9, .ref ho_10, .ref ho_11, .ref ho_12, .int 50])), (pe, .inr (3, [.int 0, .ref pe_1, .ref pe_2, .ref pe_3, .ref pe_4, .ref pe_5, .ref pe_6, .ref pe_7, .ref pe_8, .ref pe_9, .ref pe_10])), (fl, .inr (1, [.int 0, .int 0, .int 0, .ref fl_3, .ref fl_4, .ref fl_5, .ref fl_6, .ref fl_7]))]) hS => ?_)
  subst hwr8
  refine lv_if_le (tgt := 26) hx hb dX4_findStanding_12 (by decide) (fun _ => ?_) (fun h_ => absurd (by decide +kernel) h_)
  refine lv_iinc (v := 4) (lv' := [(1, .int 4), (0, .ref pl)]) hx hb dX4_findStanding_26 hl (k := 0) rfl (by decide +kernel) (by decide) rfl (fun ls hl => ?_)
  refine lv_goto (tgt := 2) hx hb dX4_findStanding_29 (by decide) ?_
  refine lv_iload_n hx hb dX4_findStanding_2 rfl (lv_at hl 0 rfl) ?_
  refine lv_iconst (v := 5) hx hb dX4_findStanding_3 (by decide) ?_
  refine lv_icmp_ge (tgt := 32) hx hb dX4_findStanding_4 (by decide) (fun h_ => absurd h_ (by decide +kernel)) (fun _ => ?_)
  refine lv_aload_n hx hb dX4_findStanding_7 rfl (lv_at hl 1 rfl) ?_
  refine lv_iload_n hx hb dX4_findStanding_8 rfl (lv_at hl 0 rfl) ?_
  refine cvi (wr := []) (As := [.int 4]) (rest := []) (b := pl) (k1 := 0) (s1 := 0) F hK hP hD hS hA (k_X4_standing l G pl 4 ho pl_1 pl_5 fl pe ru ho_4 ho_5 ho_6 ho_8 ho_9 ho_10 ho_11 ho_12 pe_1 pe_2 pe_3 pe_4 pe_5 pe_6 pe_7 pe_8 pe_9 pe_10 fl_3 fl_4 fl_5 fl_6 fl_7) kmV_X4_standing mlX4_101 clX4 rfl 0 rfl ⟨(Nat.le_of_ble_eq_true rfl), (Nat.le_of_ble_eq_true rfl)⟩ [0, 1, 2, 3] [] rfl rfl rfl rfl (by decide) hl.1 rfl (Nat.le_of_ble_eq_true rfl) dX4_findStanding_9 ⟨(Nat.le_of_ble_eq_true rfl), (Nat.le_of_ble_eq_true rfl)⟩ rfl rfl (fun r10 u9 H locs hwr10 (hP : va_P G.1 vwCl [(pl, .inr (4, [.ref ho, .ref pl_1, .int 0, .int (-1), .int (-1), .ref pl_5])), (ho, .inr (2, [.ref fl, .ref pe, .ref ru, .int 0, .ref ho_4, .ref ho_5, .ref ho_6, .int 0, .ref ho_8, .ref ho_9, .ref ho_10, .ref ho_11, .ref ho_12, .int 50])), (pe, .inr (3, [.int 0, .ref pe_1, .ref pe_2, .ref pe_3, .ref pe_4, .ref pe_5, .ref pe_6, .ref pe_7, .ref pe_8, .ref pe_9, .ref pe_10])), (fl, .inr (1, [.int 0, .int 0, .int 0, .ref fl_3, .ref fl_4, .ref fl_5, .ref fl_6, .ref fl_7]))] H) (hD : va_D A [(pl, .inr (4, [.ref ho, .ref pl_1, .int 0, .int (-1), .int (-1), .ref pl_5])), (ho, .inr (2, [.ref fl, .ref pe, .ref ru, .int 0, .ref ho_4, .ref ho_5, .ref ho_6, .int 0, .ref ho_8, .ref ho_9, .ref ho_10, .ref ho_11, .ref ho_12, .int 50])), (pe, .inr (3, [.int 0, .ref pe_1, .ref pe_2, .ref pe_3, .ref pe_4, .ref pe_5, .ref pe_6, .ref pe_7, .ref pe_8, .ref pe_9, .ref pe_10])), (fl, .inr (1, [.int 0, .int 0, .int 0, .ref fl_3, .ref fl_4, .ref fl_5, .ref fl_6, .ref fl_7]))]) hS => ?_)
  subst hwr10
  refine lv_if_le (tgt := 26) hx hb dX4_findStanding_12 (by decide) (fun _ => ?_) (fun h_ => absurd (by decide +kernel) h_)
  refine lv_iinc (v := 5) (lv' := [(1, .int 5), (0, .ref pl)]) hx hb dX4_findStanding_26 hl (k := 0) rfl (by decide +kernel) (by decide) rfl (fun ls hl => ?_)
  refine lv_goto (tgt := 2) hx hb dX4_findStanding_29 (by decide) ?_
  refine lv_iload_n hx hb dX4_findStanding_2 rfl (lv_at hl 0 rfl) ?_
  refine lv_iconst (v := 5) hx hb dX4_findStanding_3 (by decide) ?_
  refine lv_icmp_ge (tgt := 32) hx hb dX4_findStanding_4 (by decide) (fun _ => ?_) (fun h_ => absurd (by decide +kernel) h_)
  exact r_v F hr hlk hP hD hS () [0, 1, 2, 3] rfl rfl trivial dX4_findStanding_32 (Nat.le_of_ble_eq_true rfl) (Nat.le_of_ble_eq_true rfl)
set_option maxHeartbeats 4000000 in
set_option maxRecDepth 100000 in
theorem k_X4_findTeamApart (l : Launch) (G : Gx) (pl : Nat) (ho : Nat) (pl_1 : Nat) (pl_5 : Nat) (fl : Nat) (pe : Nat) (ru : Nat) (ho_4 : Nat) (ho_5 : Nat) (ho_6 : Nat) (ho_8 : Nat) (ho_9 : Nat) (ho_10 : Nat) (ho_11 : Nat) (ho_12 : Nat)  : CtV (S := Unit) l yX4_findTeamApart cX4_findTeamApart 2 none (rmD 1 0 0) G [.ref pl] [(pl, .inr (4, [.ref ho, .ref pl_1, .int 0, .int (-1), .int (-1), .ref pl_5])), (ho, .inr (2, [.ref fl, .ref pe, .ref ru, .int 0, .ref ho_4, .ref ho_5, .ref ho_6, .int 0, .ref ho_8, .ref ho_9, .ref ho_10, .ref ho_11, .ref ho_12, .int 50]))] (fun _ => True) (fun _ => [(pl, .inr (4, [.ref ho, .ref pl_1, .int 0, .int (-1), .int (-1), .ref pl_5])), (ho, .inr (2, [.ref fl, .ref pe, .ref ru, .int 0, .ref ho_4, .ref ho_5, .ref ho_6, .int 0, .ref ho_8, .ref ho_9, .ref ho_10, .ref ho_11, .ref ho_12, .int 50]))]) := by
  refine ctV_of (own := RX4) (by decide +kernel) rfl (Nat.le_of_ble_eq_true rfl) ?_
  intro p e s m below meth c A ls F hr hlk hnm hK hP hD hA hS hl
  have hx := F.1
  have hb := F.2.1
  have hown := F.2.2.2.1
  have hl : lv_has ls 2 [(0, .ref pl)] := hl
  refine lv_iconst (v := 0) hx hb dX4_findTeamApart_0 (by decide) ?_
  refine lv_istore_n (lv' := [(1, .int 0), (0, .ref pl)]) hx hb dX4_findTeamApart_1 rfl hl (by decide) rfl (fun ls hl => ?_)
  refine lv_iload_n hx hb dX4_findTeamApart_2 rfl (lv_at hl 0 rfl) ?_
  refine lv_aload_n hx hb dX4_findTeamApart_3 rfl (lv_at hl 1 rfl) ?_
  refine g_get F hK hP 0 rfl clX4 0 (by decide) flX4_28 rfl dX4_findTeamApart_4 ?_
  refine g_get F hK hP 1 rfl clX2 3 (by decide) flX4_104 rfl dX4_findTeamApart_7 ?_
  refine lv_icmp_ge (tgt := 67) hx hb dX4_findTeamApart_10 (by decide) (fun _ => ?_) (fun h_ => absurd (by decide +kernel) h_)
  exact r_v F hr hlk hP hD hS () [0, 1] rfl rfl trivial dX4_findTeamApart_67 (Nat.le_of_ble_eq_true rfl) (Nat.le_of_ble_eq_true rfl)
set_option maxHeartbeats 4000000 in
set_option maxRecDepth 100000 in
theorem k_X4_examine (l : Launch) (G : Gx) (pl : Nat) (ho : Nat) (pl_1 : Nat) (pl_5 : Nat) (fl : Nat) (pe : Nat) (ru : Nat) (ho_4 : Nat) (ho_5 : Nat) (ho_6 : Nat) (ho_8 : Nat) (ho_9 : Nat) (ho_10 : Nat) (ho_11 : Nat) (ho_12 : Nat) (pe_1 : Nat) (pe_2 : Nat) (pe_3 : Nat) (pe_4 : Nat) (pe_5 : Nat) (pe_6 : Nat) (pe_7 : Nat) (pe_8 : Nat) (pe_9 : Nat) (pe_10 : Nat) (fl_3 : Nat) (fl_4 : Nat) (fl_5 : Nat) (fl_6 : Nat) (fl_7 : Nat)  : CtV (S := Unit) l yX4_examine cX4_examine 1 none (rmD 4 0 0) G [.ref pl] [(pl, .inr (4, [.ref ho, .ref pl_1, .int 0, .int (-1), .int (-1), .ref pl_5])), (ho, .inr (2, [.ref fl, .ref pe, .ref ru, .int 0, .ref ho_4, .ref ho_5, .ref ho_6, .int 0, .ref ho_8, .ref ho_9, .ref ho_10, .ref ho_11, .ref ho_12, .int 50])), (pe, .inr (3, [.int 0, .ref pe_1, .ref pe_2, .ref pe_3, .ref pe_4, .ref pe_5, .ref pe_6, .ref pe_7, .ref pe_8, .ref pe_9, .ref pe_10])), (fl, .inr (1, [.int 0, .int 0, .int 0, .ref fl_3, .ref fl_4, .ref fl_5, .ref fl_6, .ref fl_7]))] (fun _ => True) (fun _ => [(pl, .inr (4, [.ref ho, .ref pl_1, .int 0, .int (-1), .int (-1), .ref pl_5])), (ho, .inr (2, [.ref fl, .ref pe, .ref ru, .int 0, .ref ho_4, .ref ho_5, .ref ho_6, .int 0, .ref ho_8, .ref ho_9, .ref ho_10, .ref ho_11, .ref ho_12, .int 50])), (pe, .inr (3, [.int 0, .ref pe_1, .ref pe_2, .ref pe_3, .ref pe_4, .ref pe_5, .ref pe_6, .ref pe_7, .ref pe_8, .ref pe_9, .ref pe_10])), (fl, .inr (1, [.int 0, .int 0, .int 0, .ref fl_3, .ref fl_4, .ref fl_5, .ref fl_6, .ref fl_7]))]) := by
  refine ctV_of (own := RX4) (by decide +kernel) rfl (Nat.le_of_ble_eq_true rfl) ?_
  intro p e s m below meth c A ls F hr hlk hnm hK hP hD hA hS hl
  have hx := F.1
  have hb := F.2.1
  have hown := F.2.2.2.1
  have hl : lv_has ls 1 [(0, .ref pl)] := hl
  refine lv_aload_n hx hb dX4_examine_0 rfl (lv_at hl 0 rfl) ?_
  refine lv_iconst (v := 0) hx hb dX4_examine_1 (by decide) ?_
  refine g_put (w' := [(pl, .inr (4, [.ref ho, .ref pl_1, .int 0, .int (-1), .int (-1), .ref pl_5])), (ho, .inr (2, [.ref fl, .ref pe, .ref ru, .int 0, .ref ho_4, .ref ho_5, .ref ho_6, .int 0, .ref ho_8, .ref ho_9, .ref ho_10, .ref ho_11, .ref ho_12, .int 50])), (pe, .inr (3, [.int 0, .ref pe_1, .ref pe_2, .ref pe_3, .ref pe_4, .ref pe_5, .ref pe_6, .ref pe_7, .ref pe_8, .ref pe_9, .ref pe_10])), (fl, .inr (1, [.int 0, .int 0, .int 0, .ref fl_3, .ref fl_4, .ref fl_5, .ref fl_6, .ref fl_7]))]) F hK hP hD hS 0 rfl clX4 2 (by decide) flX4_15 rfl rfl rfl (Nat.le_of_ble_eq_true rfl) dX4_examine_2 rfl (fun H locs hP hD hS => ?_)
  refine lv_aload_n hx hb dX4_examine_5 rfl (lv_at hl 0 rfl) ?_
  refine lv_iconst (v := (-1)) hx hb dX4_examine_6 (by decide) ?_
  refine g_put (w' := [(pl, .inr (4, [.ref ho, .ref pl_1, .int 0, .int (-1), .int (-1), .ref pl_5])), (ho, .inr (2, [.ref fl, .ref pe, .ref ru, .int 0, .ref ho_4, .ref ho_5, .ref ho_6, .int 0, .ref ho_8, .ref ho_9, .ref ho_10, .ref ho_11, .ref ho_12, .int 50])), (pe, .inr (3, [.int 0, .ref pe_1, .ref pe_2, .ref pe_3, .ref pe_4, .ref pe_5, .ref pe_6, .ref pe_7, .ref pe_8, .ref pe_9, .ref pe_10])), (fl, .inr (1, [.int 0, .int 0, .int 0, .ref fl_3, .ref fl_4, .ref fl_5, .ref fl_6, .ref fl_7]))]) F hK hP hD hS 0 rfl clX4 3 (by decide) flX4_19 rfl rfl rfl (Nat.le_of_ble_eq_true rfl) dX4_examine_7 rfl (fun H locs hP hD hS => ?_)
  refine lv_aload_n hx hb dX4_examine_10 rfl (lv_at hl 0 rfl) ?_
  refine lv_iconst (v := (-1)) hx hb dX4_examine_11 (by decide) ?_
  refine g_put (w' := [(pl, .inr (4, [.ref ho, .ref pl_1, .int 0, .int (-1), .int (-1), .ref pl_5])), (ho, .inr (2, [.ref fl, .ref pe, .ref ru, .int 0, .ref ho_4, .ref ho_5, .ref ho_6, .int 0, .ref ho_8, .ref ho_9, .ref ho_10, .ref ho_11, .ref ho_12, .int 50])), (pe, .inr (3, [.int 0, .ref pe_1, .ref pe_2, .ref pe_3, .ref pe_4, .ref pe_5, .ref pe_6, .ref pe_7, .ref pe_8, .ref pe_9, .ref pe_10])), (fl, .inr (1, [.int 0, .int 0, .int 0, .ref fl_3, .ref fl_4, .ref fl_5, .ref fl_6, .ref fl_7]))]) F hK hP hD hS 0 rfl clX4 4 (by decide) flX4_22 rfl rfl rfl (Nat.le_of_ble_eq_true rfl) dX4_examine_12 rfl (fun H locs hP hD hS => ?_)
  refine lv_aload_n hx hb dX4_examine_15 rfl (lv_at hl 0 rfl) ?_
  refine cvv (wr := [(fl, .inr (1, [.int 0, .int 0, .int 0, .ref fl_3, .ref fl_4, .ref fl_5, .ref fl_6, .ref fl_7]))]) (As := []) (rest := []) (b := pl) (k1 := 0) (s1 := 0) F hK hP hD hS hA (k_X4_findForbiddenDay l G pl ho pl_1 pl_5 fl pe ru ho_4 ho_5 ho_6 ho_8 ho_9 ho_10 ho_11 ho_12 pe_1 pe_2 pe_3 pe_4 pe_5 pe_6 pe_7 pe_8 pe_9 pe_10) kmV_X4_findForbiddenDay mlX4_78 clX4 rfl 0 rfl ⟨(Nat.le_of_ble_eq_true rfl), (Nat.le_of_ble_eq_true rfl)⟩ [0, 1, 2] [3] rfl rfl rfl rfl (by decide) hl.1 rfl (Nat.le_of_ble_eq_true rfl) dX4_examine_16 ⟨(Nat.le_of_ble_eq_true rfl), (Nat.le_of_ble_eq_true rfl)⟩ rfl rfl (fun u1 H locs hwr2 (hP : va_P G.1 vwCl [(fl, .inr (1, [.int 0, .int 0, .int 0, .ref fl_3, .ref fl_4, .ref fl_5, .ref fl_6, .ref fl_7])), (pl, .inr (4, [.ref ho, .ref pl_1, .int 0, .int (-1), .int (-1), .ref pl_5])), (ho, .inr (2, [.ref fl, .ref pe, .ref ru, .int 0, .ref ho_4, .ref ho_5, .ref ho_6, .int 0, .ref ho_8, .ref ho_9, .ref ho_10, .ref ho_11, .ref ho_12, .int 50])), (pe, .inr (3, [.int 0, .ref pe_1, .ref pe_2, .ref pe_3, .ref pe_4, .ref pe_5, .ref pe_6, .ref pe_7, .ref pe_8, .ref pe_9, .ref pe_10]))] H) (hD : va_D A [(fl, .inr (1, [.int 0, .int 0, .int 0, .ref fl_3, .ref fl_4, .ref fl_5, .ref fl_6, .ref fl_7])), (pl, .inr (4, [.ref ho, .ref pl_1, .int 0, .int (-1), .int (-1), .ref pl_5])), (ho, .inr (2, [.ref fl, .ref pe, .ref ru, .int 0, .ref ho_4, .ref ho_5, .ref ho_6, .int 0, .ref ho_8, .ref ho_9, .ref ho_10, .ref ho_11, .ref ho_12, .int 50])), (pe, .inr (3, [.int 0, .ref pe_1, .ref pe_2, .ref pe_3, .ref pe_4, .ref pe_5, .ref pe_6, .ref pe_7, .ref pe_8, .ref pe_9, .ref pe_10]))]) hS => ?_)
  refine lv_aload_n hx hb dX4_examine_19 rfl (lv_at hl 0 rfl) ?_
  refine g_get F hK hP 1 rfl clX4 2 (by decide) flX4_15 rfl dX4_examine_20 ?_
  refine lv_if_ne (tgt := 30) hx hb dX4_examine_23 (by decide) (fun h_ => absurd (by decide +kernel) h_) (fun _ => ?_)
  refine lv_aload_n hx hb dX4_examine_26 rfl (lv_at hl 0 rfl) ?_
  refine cvv (wr := [(fl, .inr (1, [.int 0, .int 0, .int 0, .ref fl_3, .ref fl_4, .ref fl_5, .ref fl_6, .ref fl_7]))]) (As := []) (rest := []) (b := pl) (k1 := 0) (s1 := 0) F hK hP hD hS hA (k_X4_findOtherNumber l G pl ho pl_1 pl_5 fl pe ru ho_4 ho_5 ho_6 ho_8 ho_9 ho_10 ho_11 ho_12 pe_1 pe_2 pe_3 pe_4 pe_5 pe_6 pe_7 pe_8 pe_9 pe_10) kmV_X4_findOtherNumber mlX4_81 clX4 rfl 0 rfl ⟨(Nat.le_of_ble_eq_true rfl), (Nat.le_of_ble_eq_true rfl)⟩ [1, 2, 3] [0] rfl rfl rfl rfl (by decide) hl.1 rfl (Nat.le_of_ble_eq_true rfl) dX4_examine_27 ⟨(Nat.le_of_ble_eq_true rfl), (Nat.le_of_ble_eq_true rfl)⟩ rfl rfl (fun u3 H locs hwr4 (hP : va_P G.1 vwCl [(fl, .inr (1, [.int 0, .int 0, .int 0, .ref fl_3, .ref fl_4, .ref fl_5, .ref fl_6, .ref fl_7])), (pl, .inr (4, [.ref ho, .ref pl_1, .int 0, .int (-1), .int (-1), .ref pl_5])), (ho, .inr (2, [.ref fl, .ref pe, .ref ru, .int 0, .ref ho_4, .ref ho_5, .ref ho_6, .int 0, .ref ho_8, .ref ho_9, .ref ho_10, .ref ho_11, .ref ho_12, .int 50])), (pe, .inr (3, [.int 0, .ref pe_1, .ref pe_2, .ref pe_3, .ref pe_4, .ref pe_5, .ref pe_6, .ref pe_7, .ref pe_8, .ref pe_9, .ref pe_10]))] H) (hD : va_D A [(fl, .inr (1, [.int 0, .int 0, .int 0, .ref fl_3, .ref fl_4, .ref fl_5, .ref fl_6, .ref fl_7])), (pl, .inr (4, [.ref ho, .ref pl_1, .int 0, .int (-1), .int (-1), .ref pl_5])), (ho, .inr (2, [.ref fl, .ref pe, .ref ru, .int 0, .ref ho_4, .ref ho_5, .ref ho_6, .int 0, .ref ho_8, .ref ho_9, .ref ho_10, .ref ho_11, .ref ho_12, .int 50])), (pe, .inr (3, [.int 0, .ref pe_1, .ref pe_2, .ref pe_3, .ref pe_4, .ref pe_5, .ref pe_6, .ref pe_7, .ref pe_8, .ref pe_9, .ref pe_10]))]) hS => ?_)
  refine lv_aload_n hx hb dX4_examine_30 rfl (lv_at hl 0 rfl) ?_
  refine g_get F hK hP 1 rfl clX4 2 (by decide) flX4_15 rfl dX4_examine_31 ?_
  refine lv_if_ne (tgt := 41) hx hb dX4_examine_34 (by decide) (fun h_ => absurd (by decide +kernel) h_) (fun _ => ?_)
  refine lv_aload_n hx hb dX4_examine_37 rfl (lv_at hl 0 rfl) ?_
  refine cvv (wr := []) (As := []) (rest := []) (b := pl) (k1 := 0) (s1 := 0) F hK hP hD hS hA (k_X4_findStanding l G pl ho pl_1 pl_5 fl pe ru ho_4 ho_5 ho_6 ho_8 ho_9 ho_10 ho_11 ho_12 pe_1 pe_2 pe_3 pe_4 pe_5 pe_6 pe_7 pe_8 pe_9 pe_10 fl_3 fl_4 fl_5 fl_6 fl_7) kmV_X4_findStanding mlX4_84 clX4 rfl 0 rfl ⟨(Nat.le_of_ble_eq_true rfl), (Nat.le_of_ble_eq_true rfl)⟩ [1, 2, 3, 0] [] rfl rfl rfl rfl (by decide) hl.1 rfl (Nat.le_of_ble_eq_true rfl) dX4_examine_38 ⟨(Nat.le_of_ble_eq_true rfl), (Nat.le_of_ble_eq_true rfl)⟩ rfl rfl (fun u5 H locs hwr6 (hP : va_P G.1 vwCl [(pl, .inr (4, [.ref ho, .ref pl_1, .int 0, .int (-1), .int (-1), .ref pl_5])), (ho, .inr (2, [.ref fl, .ref pe, .ref ru, .int 0, .ref ho_4, .ref ho_5, .ref ho_6, .int 0, .ref ho_8, .ref ho_9, .ref ho_10, .ref ho_11, .ref ho_12, .int 50])), (pe, .inr (3, [.int 0, .ref pe_1, .ref pe_2, .ref pe_3, .ref pe_4, .ref pe_5, .ref pe_6, .ref pe_7, .ref pe_8, .ref pe_9, .ref pe_10])), (fl, .inr (1, [.int 0, .int 0, .int 0, .ref fl_3, .ref fl_4, .ref fl_5, .ref fl_6, .ref fl_7]))] H) (hD : va_D A [(pl, .inr (4, [.ref ho, .ref pl_1, .int 0, .int (-1), .int (-1), .ref pl_5])), (ho, .inr (2, [.ref fl, .ref pe, .ref ru, .int 0, .ref ho_4, .ref ho_5, .ref ho_6, .int 0, .ref ho_8, .ref ho_9, .ref ho_10, .ref ho_11, .ref ho_12, .int 50])), (pe, .inr (3, [.int 0, .ref pe_1, .ref pe_2, .ref pe_3, .ref pe_4, .ref pe_5, .ref pe_6, .ref pe_7, .ref pe_8, .ref pe_9, .ref pe_10])), (fl, .inr (1, [.int 0, .int 0, .int 0, .ref fl_3, .ref fl_4, .ref fl_5, .ref fl_6, .ref fl_7]))]) hS => ?_)
  refine lv_aload_n hx hb dX4_examine_41 rfl (lv_at hl 0 rfl) ?_
  refine g_get F hK hP 0 rfl clX4 2 (by decide) flX4_15 rfl dX4_examine_42 ?_
  refine lv_if_ne (tgt := 52) hx hb dX4_examine_45 (by decide) (fun h_ => absurd (by decide +kernel) h_) (fun _ => ?_)
  refine lv_aload_n hx hb dX4_examine_48 rfl (lv_at hl 0 rfl) ?_
  refine cvv (wr := [(pe, .inr (3, [.int 0, .ref pe_1, .ref pe_2, .ref pe_3, .ref pe_4, .ref pe_5, .ref pe_6, .ref pe_7, .ref pe_8, .ref pe_9, .ref pe_10])), (fl, .inr (1, [.int 0, .int 0, .int 0, .ref fl_3, .ref fl_4, .ref fl_5, .ref fl_6, .ref fl_7]))]) (As := []) (rest := []) (b := pl) (k1 := 0) (s1 := 0) F hK hP hD hS hA (k_X4_findTeamApart l G pl ho pl_1 pl_5 fl pe ru ho_4 ho_5 ho_6 ho_8 ho_9 ho_10 ho_11 ho_12) kmV_X4_findTeamApart mlX4_87 clX4 rfl 0 rfl ⟨(Nat.le_of_ble_eq_true rfl), (Nat.le_of_ble_eq_true rfl)⟩ [0, 1] [2, 3] rfl rfl rfl rfl (by decide) hl.1 rfl (Nat.le_of_ble_eq_true rfl) dX4_examine_49 ⟨(Nat.le_of_ble_eq_true rfl), (Nat.le_of_ble_eq_true rfl)⟩ rfl rfl (fun u7 H locs hwr8 (hP : va_P G.1 vwCl [(pe, .inr (3, [.int 0, .ref pe_1, .ref pe_2, .ref pe_3, .ref pe_4, .ref pe_5, .ref pe_6, .ref pe_7, .ref pe_8, .ref pe_9, .ref pe_10])), (fl, .inr (1, [.int 0, .int 0, .int 0, .ref fl_3, .ref fl_4, .ref fl_5, .ref fl_6, .ref fl_7])), (pl, .inr (4, [.ref ho, .ref pl_1, .int 0, .int (-1), .int (-1), .ref pl_5])), (ho, .inr (2, [.ref fl, .ref pe, .ref ru, .int 0, .ref ho_4, .ref ho_5, .ref ho_6, .int 0, .ref ho_8, .ref ho_9, .ref ho_10, .ref ho_11, .ref ho_12, .int 50]))] H) (hD : va_D A [(pe, .inr (3, [.int 0, .ref pe_1, .ref pe_2, .ref pe_3, .ref pe_4, .ref pe_5, .ref pe_6, .ref pe_7, .ref pe_8, .ref pe_9, .ref pe_10])), (fl, .inr (1, [.int 0, .int 0, .int 0, .ref fl_3, .ref fl_4, .ref fl_5, .ref fl_6, .ref fl_7])), (pl, .inr (4, [.ref ho, .ref pl_1, .int 0, .int (-1), .int (-1), .ref pl_5])), (ho, .inr (2, [.ref fl, .ref pe, .ref ru, .int 0, .ref ho_4, .ref ho_5, .ref ho_6, .int 0, .ref ho_8, .ref ho_9, .ref ho_10, .ref ho_11, .ref ho_12, .int 50]))]) hS => ?_)
  exact r_v F hr hlk hP hD hS () [2, 3, 0, 1] rfl rfl trivial dX4_examine_52 (Nat.le_of_ble_eq_true rfl) (Nat.le_of_ble_eq_true rfl)
set_option maxHeartbeats 4000000 in
set_option maxRecDepth 100000 in
theorem k_X4_holds (l : Launch) (G : Gx) (pl : Nat) (ho : Nat) (pl_1 : Nat) (pl_5 : Nat) (fl : Nat) (pe : Nat) (ru : Nat) (ho_4 : Nat) (ho_5 : Nat) (ho_6 : Nat) (ho_8 : Nat) (ho_9 : Nat) (ho_10 : Nat) (ho_11 : Nat) (ho_12 : Nat) (pe_1 : Nat) (pe_2 : Nat) (pe_3 : Nat) (pe_4 : Nat) (pe_5 : Nat) (pe_6 : Nat) (pe_7 : Nat) (pe_8 : Nat) (pe_9 : Nat) (pe_10 : Nat) (fl_3 : Nat) (fl_4 : Nat) (fl_5 : Nat) (fl_6 : Nat) (fl_7 : Nat)  : CtI (S := Unit) l yX4_holds cX4_holds 1 (some .boolean) (rmD 5 0 0) G [.ref pl] [(pl, .inr (4, [.ref ho, .ref pl_1, .int 0, .int (-1), .int (-1), .ref pl_5])), (ho, .inr (2, [.ref fl, .ref pe, .ref ru, .int 0, .ref ho_4, .ref ho_5, .ref ho_6, .int 0, .ref ho_8, .ref ho_9, .ref ho_10, .ref ho_11, .ref ho_12, .int 50])), (pe, .inr (3, [.int 0, .ref pe_1, .ref pe_2, .ref pe_3, .ref pe_4, .ref pe_5, .ref pe_6, .ref pe_7, .ref pe_8, .ref pe_9, .ref pe_10])), (fl, .inr (1, [.int 0, .int 0, .int 0, .ref fl_3, .ref fl_4, .ref fl_5, .ref fl_6, .ref fl_7]))] (fun r _ => r = 1) (fun _ => [(pl, .inr (4, [.ref ho, .ref pl_1, .int 0, .int (-1), .int (-1), .ref pl_5])), (ho, .inr (2, [.ref fl, .ref pe, .ref ru, .int 0, .ref ho_4, .ref ho_5, .ref ho_6, .int 0, .ref ho_8, .ref ho_9, .ref ho_10, .ref ho_11, .ref ho_12, .int 50])), (pe, .inr (3, [.int 0, .ref pe_1, .ref pe_2, .ref pe_3, .ref pe_4, .ref pe_5, .ref pe_6, .ref pe_7, .ref pe_8, .ref pe_9, .ref pe_10])), (fl, .inr (1, [.int 0, .int 0, .int 0, .ref fl_3, .ref fl_4, .ref fl_5, .ref fl_6, .ref fl_7]))]) := by
  refine ctI_of (own := RX4) (by decide +kernel) rfl (Nat.le_of_ble_eq_true rfl) ?_
  intro p e s m below meth c A ls F hr hlk hnm hK hP hD hA hS hl
  have hx := F.1
  have hb := F.2.1
  have hown := F.2.2.2.1
  have hl : lv_has ls 1 [(0, .ref pl)] := hl
  refine lv_aload_n hx hb dX4_holds_0 rfl (lv_at hl 0 rfl) ?_
  refine cvv (wr := []) (As := []) (rest := []) (b := pl) (k1 := 0) (s1 := 0) F hK hP hD hS hA (k_X4_examine l G pl ho pl_1 pl_5 fl pe ru ho_4 ho_5 ho_6 ho_8 ho_9 ho_10 ho_11 ho_12 pe_1 pe_2 pe_3 pe_4 pe_5 pe_6 pe_7 pe_8 pe_9 pe_10 fl_3 fl_4 fl_5 fl_6 fl_7) kmV_X4_examine mlX4_75 clX4 rfl 0 rfl ⟨(Nat.le_of_ble_eq_true rfl), (Nat.le_of_ble_eq_true rfl)⟩ [0, 1, 2, 3] [] rfl rfl rfl rfl (by decide) hl.1 rfl (Nat.le_of_ble_eq_true rfl) dX4_holds_1 ⟨(Nat.le_of_ble_eq_true rfl), (Nat.le_of_ble_eq_true rfl)⟩ rfl rfl (fun u1 H locs hwr2 (hP : va_P G.1 vwCl [(pl, .inr (4, [.ref ho, .ref pl_1, .int 0, .int (-1), .int (-1), .ref pl_5])), (ho, .inr (2, [.ref fl, .ref pe, .ref ru, .int 0, .ref ho_4, .ref ho_5, .ref ho_6, .int 0, .ref ho_8, .ref ho_9, .ref ho_10, .ref ho_11, .ref ho_12, .int 50])), (pe, .inr (3, [.int 0, .ref pe_1, .ref pe_2, .ref pe_3, .ref pe_4, .ref pe_5, .ref pe_6, .ref pe_7, .ref pe_8, .ref pe_9, .ref pe_10])), (fl, .inr (1, [.int 0, .int 0, .int 0, .ref fl_3, .ref fl_4, .ref fl_5, .ref fl_6, .ref fl_7]))] H) (hD : va_D A [(pl, .inr (4, [.ref ho, .ref pl_1, .int 0, .int (-1), .int (-1), .ref pl_5])), (ho, .inr (2, [.ref fl, .ref pe, .ref ru, .int 0, .ref ho_4, .ref ho_5, .ref ho_6, .int 0, .ref ho_8, .ref ho_9, .ref ho_10, .ref ho_11, .ref ho_12, .int 50])), (pe, .inr (3, [.int 0, .ref pe_1, .ref pe_2, .ref pe_3, .ref pe_4, .ref pe_5, .ref pe_6, .ref pe_7, .ref pe_8, .ref pe_9, .ref pe_10])), (fl, .inr (1, [.int 0, .int 0, .int 0, .ref fl_3, .ref fl_4, .ref fl_5, .ref fl_6, .ref fl_7]))]) hS => ?_)
  refine lv_aload_n hx hb dX4_holds_4 rfl (lv_at hl 0 rfl) ?_
  refine g_get F hK hP 0 rfl clX4 2 (by decide) flX4_15 rfl dX4_holds_5 ?_
  refine lv_if_ne (tgt := 15) hx hb dX4_holds_8 (by decide) (fun h_ => absurd (by decide +kernel) h_) (fun _ => ?_)
  refine lv_iconst (v := 1) hx hb dX4_holds_11 (by decide) ?_
  refine lv_goto (tgt := 16) hx hb dX4_holds_12 (by decide) ?_
  exact r_z F hr hlk hP hD hS () [0, 1, 2, 3] rfl rfl rfl dX4_holds_16 (Nat.le_of_ble_eq_true rfl) (Nat.le_of_ble_eq_true rfl) (by decide)
set_option maxHeartbeats 4000000 in
set_option maxRecDepth 100000 in
theorem k_X4_tieWorth (l : Launch) (G : Gx) (pl : Nat) (ho : Nat) (pl_1 : Nat) (pl_5 : Nat) (fl : Nat) (pe : Nat) (ru : Nat) (ho_4 : Nat) (ho_5 : Nat) (ho_6 : Nat) (ho_8 : Nat) (ho_9 : Nat) (ho_10 : Nat) (ho_11 : Nat) (ho_12 : Nat)  : CtI (S := Unit) l yX4_tieWorth cX4_tieWorth 3 (some .int) (rmD 1 0 0) G [.ref pl] [(pl, .inr (4, [.ref ho, .ref pl_1, .int 0, .int (-1), .int (-1), .ref pl_5])), (ho, .inr (2, [.ref fl, .ref pe, .ref ru, .int 0, .ref ho_4, .ref ho_5, .ref ho_6, .int 0, .ref ho_8, .ref ho_9, .ref ho_10, .ref ho_11, .ref ho_12, .int 50]))] (fun r _ => r = 0) (fun _ => [(pl, .inr (4, [.ref ho, .ref pl_1, .int 0, .int (-1), .int (-1), .ref pl_5])), (ho, .inr (2, [.ref fl, .ref pe, .ref ru, .int 0, .ref ho_4, .ref ho_5, .ref ho_6, .int 0, .ref ho_8, .ref ho_9, .ref ho_10, .ref ho_11, .ref ho_12, .int 50]))]) := by
  refine ctI_of (own := RX4) (by decide +kernel) rfl (Nat.le_of_ble_eq_true rfl) ?_
  intro p e s m below meth c A ls F hr hlk hnm hK hP hD hA hS hl
  have hx := F.1
  have hb := F.2.1
  have hown := F.2.2.2.1
  have hl : lv_has ls 3 [(0, .ref pl)] := hl
  refine lv_iconst (v := 0) hx hb dX4_tieWorth_0 (by decide) ?_
  refine lv_istore_n (lv' := [(1, .int 0), (0, .ref pl)]) hx hb dX4_tieWorth_1 rfl hl (by decide) rfl (fun ls hl => ?_)
  refine lv_iconst (v := 0) hx hb dX4_tieWorth_2 (by decide) ?_
  refine lv_istore_n (lv' := [(2, .int 0), (1, .int 0), (0, .ref pl)]) hx hb dX4_tieWorth_3 rfl hl (by decide) rfl (fun ls hl => ?_)
  refine lv_iload_n hx hb dX4_tieWorth_4 rfl (lv_at hl 0 rfl) ?_
  refine lv_aload_n hx hb dX4_tieWorth_5 rfl (lv_at hl 2 rfl) ?_
  refine g_get F hK hP 0 rfl clX4 0 (by decide) flX4_28 rfl dX4_tieWorth_6 ?_
  refine g_get F hK hP 1 rfl clX2 7 (by decide) flX4_127 rfl dX4_tieWorth_9 ?_
  refine lv_icmp_ge (tgt := 39) hx hb dX4_tieWorth_12 (by decide) (fun _ => ?_) (fun h_ => absurd (by decide +kernel) h_)
  refine lv_iload_n hx hb dX4_tieWorth_39 rfl (lv_at hl 1 rfl) ?_
  exact r_i F hr hlk hP hD hS () [0, 1] rfl rfl rfl dX4_tieWorth_40 (Nat.le_of_ble_eq_true rfl) (Nat.le_of_ble_eq_true rfl)
set_option maxHeartbeats 4000000 in
set_option maxRecDepth 100000 in
theorem k_X4_total (l : Launch) (G : Gx) (pl : Nat) (ho : Nat) (pl_1 : Nat) (pl_5 : Nat) (fl : Nat) (pe : Nat) (ru : Nat) (ho_4 : Nat) (ho_5 : Nat) (ho_6 : Nat) (ho_8 : Nat) (ho_9 : Nat) (ho_10 : Nat) (ho_11 : Nat) (ho_12 : Nat) (pe_1 : Nat) (pe_2 : Nat) (pe_3 : Nat) (pe_4 : Nat) (pe_5 : Nat) (pe_6 : Nat) (pe_7 : Nat) (pe_8 : Nat) (pe_9 : Nat) (pe_10 : Nat)  : CtI (S := Unit) l yX4_total cX4_total 5 (some .int) (rmD 2 0 0) G [.ref pl] [(pl, .inr (4, [.ref ho, .ref pl_1, .int 0, .int (-1), .int (-1), .ref pl_5])), (ho, .inr (2, [.ref fl, .ref pe, .ref ru, .int 0, .ref ho_4, .ref ho_5, .ref ho_6, .int 0, .ref ho_8, .ref ho_9, .ref ho_10, .ref ho_11, .ref ho_12, .int 50])), (pe, .inr (3, [.int 0, .ref pe_1, .ref pe_2, .ref pe_3, .ref pe_4, .ref pe_5, .ref pe_6, .ref pe_7, .ref pe_8, .ref pe_9, .ref pe_10]))] (fun r _ => r = 0) (fun _ => [(pl, .inr (4, [.ref ho, .ref pl_1, .int 0, .int (-1), .int (-1), .ref pl_5])), (ho, .inr (2, [.ref fl, .ref pe, .ref ru, .int 0, .ref ho_4, .ref ho_5, .ref ho_6, .int 0, .ref ho_8, .ref ho_9, .ref ho_10, .ref ho_11, .ref ho_12, .int 50])), (pe, .inr (3, [.int 0, .ref pe_1, .ref pe_2, .ref pe_3, .ref pe_4, .ref pe_5, .ref pe_6, .ref pe_7, .ref pe_8, .ref pe_9, .ref pe_10]))]) := by
  refine ctI_of (own := RX4) (by decide +kernel) rfl (Nat.le_of_ble_eq_true rfl) ?_
  intro p e s m below meth c A ls F hr hlk hnm hK hP hD hA hS hl
  have hx := F.1
  have hb := F.2.1
  have hown := F.2.2.2.1
  have hl : lv_has ls 5 [(0, .ref pl)] := hl
  refine lv_aload_n hx hb dX4_total_0 rfl (lv_at hl 0 rfl) ?_
  refine cvi (wr := [(pe, .inr (3, [.int 0, .ref pe_1, .ref pe_2, .ref pe_3, .ref pe_4, .ref pe_5, .ref pe_6, .ref pe_7, .ref pe_8, .ref pe_9, .ref pe_10]))]) (As := []) (rest := []) (b := pl) (k1 := 0) (s1 := 0) F hK hP hD hS hA (k_X4_tieWorth l G pl ho pl_1 pl_5 fl pe ru ho_4 ho_5 ho_6 ho_8 ho_9 ho_10 ho_11 ho_12) kmV_X4_tieWorth mlX4_136 clX4 rfl 0 rfl ⟨(Nat.le_of_ble_eq_true rfl), (Nat.le_of_ble_eq_true rfl)⟩ [0, 1] [2] rfl rfl rfl rfl (by decide) hl.1 rfl (Nat.le_of_ble_eq_true rfl) dX4_total_1 ⟨(Nat.le_of_ble_eq_true rfl), (Nat.le_of_ble_eq_true rfl)⟩ rfl rfl (fun r2 u1 H locs hwr2 (hP : va_P G.1 vwCl [(pe, .inr (3, [.int 0, .ref pe_1, .ref pe_2, .ref pe_3, .ref pe_4, .ref pe_5, .ref pe_6, .ref pe_7, .ref pe_8, .ref pe_9, .ref pe_10])), (pl, .inr (4, [.ref ho, .ref pl_1, .int 0, .int (-1), .int (-1), .ref pl_5])), (ho, .inr (2, [.ref fl, .ref pe, .ref ru, .int 0, .ref ho_4, .ref ho_5, .ref ho_6, .int 0, .ref ho_8, .ref ho_9, .ref ho_10, .ref ho_11, .ref ho_12, .int 50]))] H) (hD : va_D A [(pe, .inr (3, [.int 0, .ref pe_1, .ref pe_2, .ref pe_3, .ref pe_4, .ref pe_5, .ref pe_6, .ref pe_7, .ref pe_8, .ref pe_9, .ref pe_10])), (pl, .inr (4, [.ref ho, .ref pl_1, .int 0, .int (-1), .int (-1), .ref pl_5])), (ho, .inr (2, [.ref fl, .ref pe, .ref ru, .int 0, .ref ho_4, .ref ho_5, .ref ho_6, .int 0, .ref ho_8, .ref ho_9, .ref ho_10, .ref ho_11, .ref ho_12, .int 50]))]) hS => ?_)
  subst hwr2
  refine lv_istore_n (lv' := [(1, .int 0), (0, .ref pl)]) hx hb dX4_total_4 rfl hl (by decide) rfl (fun ls hl => ?_)
  refine lv_iconst (v := 0) hx hb dX4_total_5 (by decide) ?_
  refine lv_istore_n (lv' := [(2, .int 0), (1, .int 0), (0, .ref pl)]) hx hb dX4_total_6 rfl hl (by decide) rfl (fun ls hl => ?_)
  refine lv_iload_n hx hb dX4_total_7 rfl (lv_at hl 0 rfl) ?_
  refine lv_iconst (v := 5) hx hb dX4_total_8 (by decide) ?_
  refine lv_icmp_ge (tgt := 87) hx hb dX4_total_9 (by decide) (fun h_ => absurd h_ (by decide +kernel)) (fun _ => ?_)
  refine lv_aload_n hx hb dX4_total_12 rfl (lv_at hl 2 rfl) ?_
  refine lv_iload_n hx hb dX4_total_13 rfl (lv_at hl 0 rfl) ?_
  refine cvi (wr := []) (As := [.int 0]) (rest := []) (b := pl) (k1 := 0) (s1 := 0) F hK hP hD hS hA (k_X4_inCount l G pl 0 ho pl_1 pl_5 fl pe ru ho_4 ho_5 ho_6 ho_8 ho_9 ho_10 ho_11 ho_12 pe_1 pe_2 pe_3 pe_4 pe_5 pe_6 pe_7 pe_8 pe_9 pe_10) kmV_X4_inCount mlX4_140 clX4 rfl 0 rfl ⟨(Nat.le_of_ble_eq_true rfl), (Nat.le_of_ble_eq_true rfl)⟩ [1, 2, 0] [] rfl rfl rfl rfl (by decide) hl.1 rfl (Nat.le_of_ble_eq_true rfl) dX4_total_14 ⟨(Nat.le_of_ble_eq_true rfl), (Nat.le_of_ble_eq_true rfl)⟩ rfl rfl (fun r4 u3 H locs hwr4 (hP : va_P G.1 vwCl [(pl, .inr (4, [.ref ho, .ref pl_1, .int 0, .int (-1), .int (-1), .ref pl_5])), (ho, .inr (2, [.ref fl, .ref pe, .ref ru, .int 0, .ref ho_4, .ref ho_5, .ref ho_6, .int 0, .ref ho_8, .ref ho_9, .ref ho_10, .ref ho_11, .ref ho_12, .int 50])), (pe, .inr (3, [.int 0, .ref pe_1, .ref pe_2, .ref pe_3, .ref pe_4, .ref pe_5, .ref pe_6, .ref pe_7, .ref pe_8, .ref pe_9, .ref pe_10]))] H) (hD : va_D A [(pl, .inr (4, [.ref ho, .ref pl_1, .int 0, .int (-1), .int (-1), .ref pl_5])), (ho, .inr (2, [.ref fl, .ref pe, .ref ru, .int 0, .ref ho_4, .ref ho_5, .ref ho_6, .int 0, .ref ho_8, .ref ho_9, .ref ho_10, .ref ho_11, .ref ho_12, .int 50])), (pe, .inr (3, [.int 0, .ref pe_1, .ref pe_2, .ref pe_3, .ref pe_4, .ref pe_5, .ref pe_6, .ref pe_7, .ref pe_8, .ref pe_9, .ref pe_10]))]) hS => ?_)
  subst hwr4
  refine lv_istore_n (lv' := [(3, .int 0), (2, .int 0), (1, .int 0), (0, .ref pl)]) hx hb dX4_total_17 rfl hl (by decide) rfl (fun ls hl => ?_)
  refine lv_iconst (v := 0) hx hb dX4_total_18 (by decide) ?_
  refine lv_istore (lv' := [(4, .int 0), (3, .int 0), (2, .int 0), (1, .int 0), (0, .ref pl)]) hx hb dX4_total_19 hl (by decide) rfl (fun ls hl => ?_)
  refine lv_iload hx hb dX4_total_21 (lv_at hl 0 rfl) ?_
  refine lv_aload_n hx hb dX4_total_23 rfl (lv_at hl 4 rfl) ?_
  refine g_get F hK hP 0 rfl clX4 0 (by decide) flX4_28 rfl dX4_total_24 ?_
  refine g_get F hK hP 1 rfl clX2 1 (by decide) flX4_39 rfl dX4_total_27 ?_
  refine g_get F hK hP 2 rfl clX3 0 (by decide) flX4_45 rfl dX4_total_30 ?_
  refine lv_icmp_ge (tgt := 81) hx hb dX4_total_33 (by decide) (fun _ => ?_) (fun h_ => absurd (by decide +kernel) h_)
  refine lv_iinc (v := 1) (lv' := [(2, .int 1), (4, .int 0), (3, .int 0), (1, .int 0), (0, .ref pl)]) hx hb dX4_total_81 hl (k := 2) rfl (by decide +kernel) (by decide) rfl (fun ls hl => ?_)
  refine lv_goto (tgt := 7) hx hb dX4_total_84 (by decide) ?_
  refine lv_iload_n hx hb dX4_total_7 rfl (lv_at hl 0 rfl) ?_
  refine lv_iconst (v := 5) hx hb dX4_total_8 (by decide) ?_
  refine lv_icmp_ge (tgt := 87) hx hb dX4_total_9 (by decide) (fun h_ => absurd h_ (by decide +kernel)) (fun _ => ?_)
  refine lv_aload_n hx hb dX4_total_12 rfl (lv_at hl 4 rfl) ?_
  refine lv_iload_n hx hb dX4_total_13 rfl (lv_at hl 0 rfl) ?_
  refine cvi (wr := []) (As := [.int 1]) (rest := []) (b := pl) (k1 := 0) (s1 := 0) F hK hP hD hS hA (k_X4_inCount l G pl 1 ho pl_1 pl_5 fl pe ru ho_4 ho_5 ho_6 ho_8 ho_9 ho_10 ho_11 ho_12 pe_1 pe_2 pe_3 pe_4 pe_5 pe_6 pe_7 pe_8 pe_9 pe_10) kmV_X4_inCount mlX4_140 clX4 rfl 0 rfl ⟨(Nat.le_of_ble_eq_true rfl), (Nat.le_of_ble_eq_true rfl)⟩ [0, 1, 2] [] rfl rfl rfl rfl (by decide) hl.1 rfl (Nat.le_of_ble_eq_true rfl) dX4_total_14 ⟨(Nat.le_of_ble_eq_true rfl), (Nat.le_of_ble_eq_true rfl)⟩ rfl rfl (fun r6 u5 H locs hwr6 (hP : va_P G.1 vwCl [(pl, .inr (4, [.ref ho, .ref pl_1, .int 0, .int (-1), .int (-1), .ref pl_5])), (ho, .inr (2, [.ref fl, .ref pe, .ref ru, .int 0, .ref ho_4, .ref ho_5, .ref ho_6, .int 0, .ref ho_8, .ref ho_9, .ref ho_10, .ref ho_11, .ref ho_12, .int 50])), (pe, .inr (3, [.int 0, .ref pe_1, .ref pe_2, .ref pe_3, .ref pe_4, .ref pe_5, .ref pe_6, .ref pe_7, .ref pe_8, .ref pe_9, .ref pe_10]))] H) (hD : va_D A [(pl, .inr (4, [.ref ho, .ref pl_1, .int 0, .int (-1), .int (-1), .ref pl_5])), (ho, .inr (2, [.ref fl, .ref pe, .ref ru, .int 0, .ref ho_4, .ref ho_5, .ref ho_6, .int 0, .ref ho_8, .ref ho_9, .ref ho_10, .ref ho_11, .ref ho_12, .int 50])), (pe, .inr (3, [.int 0, .ref pe_1, .ref pe_2, .ref pe_3, .ref pe_4, .ref pe_5, .ref pe_6, .ref pe_7, .ref pe_8, .ref pe_9, .ref pe_10]))]) hS => ?_)
  subst hwr6
  refine lv_istore_n (lv' := [(3, .int 0), (2, .int 1), (4, .int 0), (1, .int 0), (0, .ref pl)]) hx hb dX4_total_17 rfl hl (by decide) rfl (fun ls hl => ?_)
  refine lv_iconst (v := 0) hx hb dX4_total_18 (by decide) ?_
  refine lv_istore (lv' := [(4, .int 0), (3, .int 0), (2, .int 1), (1, .int 0), (0, .ref pl)]) hx hb dX4_total_19 hl (by decide) rfl (fun ls hl => ?_)
  refine lv_iload hx hb dX4_total_21 (lv_at hl 0 rfl) ?_
  refine lv_aload_n hx hb dX4_total_23 rfl (lv_at hl 4 rfl) ?_
  refine g_get F hK hP 0 rfl clX4 0 (by decide) flX4_28 rfl dX4_total_24 ?_
  refine g_get F hK hP 1 rfl clX2 1 (by decide) flX4_39 rfl dX4_total_27 ?_
  refine g_get F hK hP 2 rfl clX3 0 (by decide) flX4_45 rfl dX4_total_30 ?_
  refine lv_icmp_ge (tgt := 81) hx hb dX4_total_33 (by decide) (fun _ => ?_) (fun h_ => absurd (by decide +kernel) h_)
  refine lv_iinc (v := 2) (lv' := [(2, .int 2), (4, .int 0), (3, .int 0), (1, .int 0), (0, .ref pl)]) hx hb dX4_total_81 hl (k := 2) rfl (by decide +kernel) (by decide) rfl (fun ls hl => ?_)
  refine lv_goto (tgt := 7) hx hb dX4_total_84 (by decide) ?_
  refine lv_iload_n hx hb dX4_total_7 rfl (lv_at hl 0 rfl) ?_
  refine lv_iconst (v := 5) hx hb dX4_total_8 (by decide) ?_
  refine lv_icmp_ge (tgt := 87) hx hb dX4_total_9 (by decide) (fun h_ => absurd h_ (by decide +kernel)) (fun _ => ?_)
  refine lv_aload_n hx hb dX4_total_12 rfl (lv_at hl 4 rfl) ?_
  refine lv_iload_n hx hb dX4_total_13 rfl (lv_at hl 0 rfl) ?_
  refine cvi (wr := []) (As := [.int 2]) (rest := []) (b := pl) (k1 := 0) (s1 := 0) F hK hP hD hS hA (k_X4_inCount l G pl 2 ho pl_1 pl_5 fl pe ru ho_4 ho_5 ho_6 ho_8 ho_9 ho_10 ho_11 ho_12 pe_1 pe_2 pe_3 pe_4 pe_5 pe_6 pe_7 pe_8 pe_9 pe_10) kmV_X4_inCount mlX4_140 clX4 rfl 0 rfl ⟨(Nat.le_of_ble_eq_true rfl), (Nat.le_of_ble_eq_true rfl)⟩ [0, 1, 2] [] rfl rfl rfl rfl (by decide) hl.1 rfl (Nat.le_of_ble_eq_true rfl) dX4_total_14 ⟨(Nat.le_of_ble_eq_true rfl), (Nat.le_of_ble_eq_true rfl)⟩ rfl rfl (fun r8 u7 H locs hwr8 (hP : va_P G.1 vwCl [(pl, .inr (4, [.ref ho, .ref pl_1, .int 0, .int (-1), .int (-1), .ref pl_5])), (ho, .inr (2, [.ref fl, .ref pe, .ref ru, .int 0, .ref ho_4, .ref ho_5, .ref ho_6, .int 0, .ref ho_8, .ref ho_9, .ref ho_10, .ref ho_11, .ref ho_12, .int 50])), (pe, .inr (3, [.int 0, .ref pe_1, .ref pe_2, .ref pe_3, .ref pe_4, .ref pe_5, .ref pe_6, .ref pe_7, .ref pe_8, .ref pe_9, .ref pe_10]))] H) (hD : va_D A [(pl, .inr (4, [.ref ho, .ref pl_1, .int 0, .int (-1), .int (-1), .ref pl_5])), (ho, .inr (2, [.ref fl, .ref pe, .ref ru, .int 0, .ref ho_4, .ref ho_5, .ref ho_6, .int 0, .ref ho_8, .ref ho_9, .ref ho_10, .ref ho_11, .ref ho_12, .int 50])), (pe, .inr (3, [.int 0, .ref pe_1, .ref pe_2, .ref pe_3, .ref pe_4, .ref pe_5, .ref pe_6, .ref pe_7, .ref pe_8, .ref pe_9, .ref pe_10]))]) hS => ?_)
  subst hwr8
  refine lv_istore_n (lv' := [(3, .int 0), (2, .int 2), (4, .int 0), (1, .int 0), (0, .ref pl)]) hx hb dX4_total_17 rfl hl (by decide) rfl (fun ls hl => ?_)
  refine lv_iconst (v := 0) hx hb dX4_total_18 (by decide) ?_
  refine lv_istore (lv' := [(4, .int 0), (3, .int 0), (2, .int 2), (1, .int 0), (0, .ref pl)]) hx hb dX4_total_19 hl (by decide) rfl (fun ls hl => ?_)
  refine lv_iload hx hb dX4_total_21 (lv_at hl 0 rfl) ?_
  refine lv_aload_n hx hb dX4_total_23 rfl (lv_at hl 4 rfl) ?_
  refine g_get F hK hP 0 rfl clX4 0 (by decide) flX4_28 rfl dX4_total_24 ?_
  refine g_get F hK hP 1 rfl clX2 1 (by decide) flX4_39 rfl dX4_total_27 ?_
  refine g_get F hK hP 2 rfl clX3 0 (by decide) flX4_45 rfl dX4_total_30 ?_
  refine lv_icmp_ge (tgt := 81) hx hb dX4_total_33 (by decide) (fun _ => ?_) (fun h_ => absurd (by decide +kernel) h_)
  refine lv_iinc (v := 3) (lv' := [(2, .int 3), (4, .int 0), (3, .int 0), (1, .int 0), (0, .ref pl)]) hx hb dX4_total_81 hl (k := 2) rfl (by decide +kernel) (by decide) rfl (fun ls hl => ?_)
  refine lv_goto (tgt := 7) hx hb dX4_total_84 (by decide) ?_
  refine lv_iload_n hx hb dX4_total_7 rfl (lv_at hl 0 rfl) ?_
  refine lv_iconst (v := 5) hx hb dX4_total_8 (by decide) ?_
  refine lv_icmp_ge (tgt := 87) hx hb dX4_total_9 (by decide) (fun h_ => absurd h_ (by decide +kernel)) (fun _ => ?_)
  refine lv_aload_n hx hb dX4_total_12 rfl (lv_at hl 4 rfl) ?_
  refine lv_iload_n hx hb dX4_total_13 rfl (lv_at hl 0 rfl) ?_
  refine cvi (wr := []) (As := [.int 3]) (rest := []) (b := pl) (k1 := 0) (s1 := 0) F hK hP hD hS hA (k_X4_inCount l G pl 3 ho pl_1 pl_5 fl pe ru ho_4 ho_5 ho_6 ho_8 ho_9 ho_10 ho_11 ho_12 pe_1 pe_2 pe_3 pe_4 pe_5 pe_6 pe_7 pe_8 pe_9 pe_10) kmV_X4_inCount mlX4_140 clX4 rfl 0 rfl ⟨(Nat.le_of_ble_eq_true rfl), (Nat.le_of_ble_eq_true rfl)⟩ [0, 1, 2] [] rfl rfl rfl rfl (by decide) hl.1 rfl (Nat.le_of_ble_eq_true rfl) dX4_total_14 ⟨(Nat.le_of_ble_eq_true rfl), (Nat.le_of_ble_eq_true rfl)⟩ rfl rfl (fun r10 u9 H locs hwr10 (hP : va_P G.1 vwCl [(pl, .inr (4, [.ref ho, .ref pl_1, .int 0, .int (-1), .int (-1), .ref pl_5])), (ho, .inr (2, [.ref fl, .ref pe, .ref ru, .int 0, .ref ho_4, .ref ho_5, .ref ho_6, .int 0, .ref ho_8, .ref ho_9, .ref ho_10, .ref ho_11, .ref ho_12, .int 50])), (pe, .inr (3, [.int 0, .ref pe_1, .ref pe_2, .ref pe_3, .ref pe_4, .ref pe_5, .ref pe_6, .ref pe_7, .ref pe_8, .ref pe_9, .ref pe_10]))] H) (hD : va_D A [(pl, .inr (4, [.ref ho, .ref pl_1, .int 0, .int (-1), .int (-1), .ref pl_5])), (ho, .inr (2, [.ref fl, .ref pe, .ref ru, .int 0, .ref ho_4, .ref ho_5, .ref ho_6, .int 0, .ref ho_8, .ref ho_9, .ref ho_10, .ref ho_11, .ref ho_12, .int 50])), (pe, .inr (3, [.int 0, .ref pe_1, .ref pe_2, .ref pe_3, .ref pe_4, .ref pe_5, .ref pe_6, .ref pe_7, .ref pe_8, .ref pe_9, .ref pe_10]))]) hS => ?_)
  subst hwr10
  refine lv_istore_n (lv' := [(3, .int 0), (2, .int 3), (4, .int 0), (1, .int 0), (0, .ref pl)]) hx hb dX4_total_17 rfl hl (by decide) rfl (fun ls hl => ?_)
  refine lv_iconst (v := 0) hx hb dX4_total_18 (by decide) ?_
  refine lv_istore (lv' := [(4, .int 0), (3, .int 0), (2, .int 3), (1, .int 0), (0, .ref pl)]) hx hb dX4_total_19 hl (by decide) rfl (fun ls hl => ?_)
  refine lv_iload hx hb dX4_total_21 (lv_at hl 0 rfl) ?_
  refine lv_aload_n hx hb dX4_total_23 rfl (lv_at hl 4 rfl) ?_
  refine g_get F hK hP 0 rfl clX4 0 (by decide) flX4_28 rfl dX4_total_24 ?_
  refine g_get F hK hP 1 rfl clX2 1 (by decide) flX4_39 rfl dX4_total_27 ?_
  refine g_get F hK hP 2 rfl clX3 0 (by decide) flX4_45 rfl dX4_total_30 ?_
  refine lv_icmp_ge (tgt := 81) hx hb dX4_total_33 (by decide) (fun _ => ?_) (fun h_ => absurd (by decide +kernel) h_)
  refine lv_iinc (v := 4) (lv' := [(2, .int 4), (4, .int 0), (3, .int 0), (1, .int 0), (0, .ref pl)]) hx hb dX4_total_81 hl (k := 2) rfl (by decide +kernel) (by decide) rfl (fun ls hl => ?_)
  refine lv_goto (tgt := 7) hx hb dX4_total_84 (by decide) ?_
  refine lv_iload_n hx hb dX4_total_7 rfl (lv_at hl 0 rfl) ?_
  refine lv_iconst (v := 5) hx hb dX4_total_8 (by decide) ?_
  refine lv_icmp_ge (tgt := 87) hx hb dX4_total_9 (by decide) (fun h_ => absurd h_ (by decide +kernel)) (fun _ => ?_)
  refine lv_aload_n hx hb dX4_total_12 rfl (lv_at hl 4 rfl) ?_
  refine lv_iload_n hx hb dX4_total_13 rfl (lv_at hl 0 rfl) ?_
  refine cvi (wr := []) (As := [.int 4]) (rest := []) (b := pl) (k1 := 0) (s1 := 0) F hK hP hD hS hA (k_X4_inCount l G pl 4 ho pl_1 pl_5 fl pe ru ho_4 ho_5 ho_6 ho_8 ho_9 ho_10 ho_11 ho_12 pe_1 pe_2 pe_3 pe_4 pe_5 pe_6 pe_7 pe_8 pe_9 pe_10) kmV_X4_inCount mlX4_140 clX4 rfl 0 rfl ⟨(Nat.le_of_ble_eq_true rfl), (Nat.le_of_ble_eq_true rfl)⟩ [0, 1, 2] [] rfl rfl rfl rfl (by decide) hl.1 rfl (Nat.le_of_ble_eq_true rfl) dX4_total_14 ⟨(Nat.le_of_ble_eq_true rfl), (Nat.le_of_ble_eq_true rfl)⟩ rfl rfl (fun r12 u11 H locs hwr12 (hP : va_P G.1 vwCl [(pl, .inr (4, [.ref ho, .ref pl_1, .int 0, .int (-1), .int (-1), .ref pl_5])), (ho, .inr (2, [.ref fl, .ref pe, .ref ru, .int 0, .ref ho_4, .ref ho_5, .ref ho_6, .int 0, .ref ho_8, .ref ho_9, .ref ho_10, .ref ho_11, .ref ho_12, .int 50])), (pe, .inr (3, [.int 0, .ref pe_1, .ref pe_2, .ref pe_3, .ref pe_4, .ref pe_5, .ref pe_6, .ref pe_7, .ref pe_8, .ref pe_9, .ref pe_10]))] H) (hD : va_D A [(pl, .inr (4, [.ref ho, .ref pl_1, .int 0, .int (-1), .int (-1), .ref pl_5])), (ho, .inr (2, [.ref fl, .ref pe, .ref ru, .int 0, .ref ho_4, .ref ho_5, .ref ho_6, .int 0, .ref ho_8, .ref ho_9, .ref ho_10, .ref ho_11, .ref ho_12, .int 50])), (pe, .inr (3, [.int 0, .ref pe_1, .ref pe_2, .ref pe_3, .ref pe_4, .ref pe_5, .ref pe_6, .ref pe_7, .ref pe_8, .ref pe_9, .ref pe_10]))]) hS => ?_)
  subst hwr12
  refine lv_istore_n (lv' := [(3, .int 0), (2, .int 4), (4, .int 0), (1, .int 0), (0, .ref pl)]) hx hb dX4_total_17 rfl hl (by decide) rfl (fun ls hl => ?_)
  refine lv_iconst (v := 0) hx hb dX4_total_18 (by decide) ?_
  refine lv_istore (lv' := [(4, .int 0), (3, .int 0), (2, .int 4), (1, .int 0), (0, .ref pl)]) hx hb dX4_total_19 hl (by decide) rfl (fun ls hl => ?_)
  refine lv_iload hx hb dX4_total_21 (lv_at hl 0 rfl) ?_
  refine lv_aload_n hx hb dX4_total_23 rfl (lv_at hl 4 rfl) ?_
  refine g_get F hK hP 0 rfl clX4 0 (by decide) flX4_28 rfl dX4_total_24 ?_
  refine g_get F hK hP 1 rfl clX2 1 (by decide) flX4_39 rfl dX4_total_27 ?_
  refine g_get F hK hP 2 rfl clX3 0 (by decide) flX4_45 rfl dX4_total_30 ?_
  refine lv_icmp_ge (tgt := 81) hx hb dX4_total_33 (by decide) (fun _ => ?_) (fun h_ => absurd (by decide +kernel) h_)
  refine lv_iinc (v := 5) (lv' := [(2, .int 5), (4, .int 0), (3, .int 0), (1, .int 0), (0, .ref pl)]) hx hb dX4_total_81 hl (k := 2) rfl (by decide +kernel) (by decide) rfl (fun ls hl => ?_)
  refine lv_goto (tgt := 7) hx hb dX4_total_84 (by decide) ?_
  refine lv_iload_n hx hb dX4_total_7 rfl (lv_at hl 0 rfl) ?_
  refine lv_iconst (v := 5) hx hb dX4_total_8 (by decide) ?_
  refine lv_icmp_ge (tgt := 87) hx hb dX4_total_9 (by decide) (fun _ => ?_) (fun h_ => absurd (by decide +kernel) h_)
  refine lv_iload_n hx hb dX4_total_87 rfl (lv_at hl 3 rfl) ?_
  exact r_i F hr hlk hP hD hS () [0, 1, 2] rfl rfl rfl dX4_total_88 (Nat.le_of_ble_eq_true rfl) (Nat.le_of_ble_eq_true rfl)
set_option maxHeartbeats 4000000 in
set_option maxRecDepth 100000 in
theorem k_X4_greatestUnmet (l : Launch) (G : Gx) (pl : Nat) (ho : Nat) (pl_1 : Nat) (pl_5 : Nat) (fl : Nat) (pe : Nat) (ru : Nat) (ho_4 : Nat) (ho_5 : Nat) (ho_6 : Nat) (ho_8 : Nat) (ho_9 : Nat) (ho_10 : Nat) (ho_11 : Nat) (ho_12 : Nat)  : CtI (S := Unit) l yX4_greatestUnmet cX4_greatestUnmet 3 (some .int) (rmD 1 0 0) G [.ref pl] [(pl, .inr (4, [.ref ho, .ref pl_1, .int 0, .int (-1), .int (-1), .ref pl_5])), (ho, .inr (2, [.ref fl, .ref pe, .ref ru, .int 0, .ref ho_4, .ref ho_5, .ref ho_6, .int 0, .ref ho_8, .ref ho_9, .ref ho_10, .ref ho_11, .ref ho_12, .int 50]))] (fun r _ => r = (-1)) (fun _ => [(pl, .inr (4, [.ref ho, .ref pl_1, .int 0, .int (-1), .int (-1), .ref pl_5])), (ho, .inr (2, [.ref fl, .ref pe, .ref ru, .int 0, .ref ho_4, .ref ho_5, .ref ho_6, .int 0, .ref ho_8, .ref ho_9, .ref ho_10, .ref ho_11, .ref ho_12, .int 50]))]) := by
  refine ctI_of (own := RX4) (by decide +kernel) rfl (Nat.le_of_ble_eq_true rfl) ?_
  intro p e s m below meth c A ls F hr hlk hnm hK hP hD hA hS hl
  have hx := F.1
  have hb := F.2.1
  have hown := F.2.2.2.1
  have hl : lv_has ls 3 [(0, .ref pl)] := hl
  refine lv_iconst (v := (-1)) hx hb dX4_greatestUnmet_0 (by decide) ?_
  refine lv_istore_n (lv' := [(1, .int (-1)), (0, .ref pl)]) hx hb dX4_greatestUnmet_1 rfl hl (by decide) rfl (fun ls hl => ?_)
  refine lv_iconst (v := 0) hx hb dX4_greatestUnmet_2 (by decide) ?_
  refine lv_istore_n (lv' := [(2, .int 0), (1, .int (-1)), (0, .ref pl)]) hx hb dX4_greatestUnmet_3 rfl hl (by decide) rfl (fun ls hl => ?_)
  refine lv_iload_n hx hb dX4_greatestUnmet_4 rfl (lv_at hl 0 rfl) ?_
  refine lv_aload_n hx hb dX4_greatestUnmet_5 rfl (lv_at hl 2 rfl) ?_
  refine g_get F hK hP 0 rfl clX4 0 (by decide) flX4_28 rfl dX4_greatestUnmet_6 ?_
  refine g_get F hK hP 1 rfl clX2 7 (by decide) flX4_127 rfl dX4_greatestUnmet_9 ?_
  refine lv_icmp_ge (tgt := 57) hx hb dX4_greatestUnmet_12 (by decide) (fun _ => ?_) (fun h_ => absurd (by decide +kernel) h_)
  refine lv_iload_n hx hb dX4_greatestUnmet_57 rfl (lv_at hl 1 rfl) ?_
  exact r_i F hr hlk hP hD hS () [0, 1] rfl rfl rfl dX4_greatestUnmet_58 (Nat.le_of_ble_eq_true rfl) (Nat.le_of_ble_eq_true rfl)
set_option maxHeartbeats 4000000 in
set_option maxRecDepth 100000 in
theorem k_X4_unmetTies (l : Launch) (G : Gx) (pl : Nat) (ho : Nat) (pl_1 : Nat) (pl_5 : Nat) (fl : Nat) (pe : Nat) (ru : Nat) (ho_4 : Nat) (ho_5 : Nat) (ho_6 : Nat) (ho_8 : Nat) (ho_9 : Nat) (ho_10 : Nat) (ho_11 : Nat) (ho_12 : Nat)  : CtI (S := Unit) l yX4_unmetTies cX4_unmetTies 3 (some .int) (rmD 1 0 0) G [.ref pl] [(pl, .inr (4, [.ref ho, .ref pl_1, .int 0, .int (-1), .int (-1), .ref pl_5])), (ho, .inr (2, [.ref fl, .ref pe, .ref ru, .int 0, .ref ho_4, .ref ho_5, .ref ho_6, .int 0, .ref ho_8, .ref ho_9, .ref ho_10, .ref ho_11, .ref ho_12, .int 50]))] (fun r _ => r = 0) (fun _ => [(pl, .inr (4, [.ref ho, .ref pl_1, .int 0, .int (-1), .int (-1), .ref pl_5])), (ho, .inr (2, [.ref fl, .ref pe, .ref ru, .int 0, .ref ho_4, .ref ho_5, .ref ho_6, .int 0, .ref ho_8, .ref ho_9, .ref ho_10, .ref ho_11, .ref ho_12, .int 50]))]) := by
  refine ctI_of (own := RX4) (by decide +kernel) rfl (Nat.le_of_ble_eq_true rfl) ?_
  intro p e s m below meth c A ls F hr hlk hnm hK hP hD hA hS hl
  have hx := F.1
  have hb := F.2.1
  have hown := F.2.2.2.1
  have hl : lv_has ls 3 [(0, .ref pl)] := hl
  refine lv_iconst (v := 0) hx hb dX4_unmetTies_0 (by decide) ?_
  refine lv_istore_n (lv' := [(1, .int 0), (0, .ref pl)]) hx hb dX4_unmetTies_1 rfl hl (by decide) rfl (fun ls hl => ?_)
  refine lv_iconst (v := 0) hx hb dX4_unmetTies_2 (by decide) ?_
  refine lv_istore_n (lv' := [(2, .int 0), (1, .int 0), (0, .ref pl)]) hx hb dX4_unmetTies_3 rfl hl (by decide) rfl (fun ls hl => ?_)
  refine lv_iload_n hx hb dX4_unmetTies_4 rfl (lv_at hl 0 rfl) ?_
  refine lv_aload_n hx hb dX4_unmetTies_5 rfl (lv_at hl 2 rfl) ?_
  refine g_get F hK hP 0 rfl clX4 0 (by decide) flX4_28 rfl dX4_unmetTies_6 ?_
  refine g_get F hK hP 1 rfl clX2 7 (by decide) flX4_127 rfl dX4_unmetTies_9 ?_
  refine lv_icmp_ge (tgt := 32) hx hb dX4_unmetTies_12 (by decide) (fun _ => ?_) (fun h_ => absurd (by decide +kernel) h_)
  refine lv_iload_n hx hb dX4_unmetTies_32 rfl (lv_at hl 1 rfl) ?_
  exact r_i F hr hlk hP hD hS () [0, 1] rfl rfl rfl dX4_unmetTies_33 (Nat.le_of_ble_eq_true rfl) (Nat.le_of_ble_eq_true rfl)
set_option maxHeartbeats 4000000 in
set_option maxRecDepth 100000 in
theorem k_X4_lonelyPersons (l : Launch) (G : Gx) (pl : Nat) (ho : Nat) (pl_1 : Nat) (pl_5 : Nat) (fl : Nat) (pe : Nat) (ru : Nat) (ho_4 : Nat) (ho_5 : Nat) (ho_6 : Nat) (ho_8 : Nat) (ho_9 : Nat) (ho_10 : Nat) (ho_11 : Nat) (ho_12 : Nat) (pe_1 : Nat) (pe_2 : Nat) (pe_3 : Nat) (pe_4 : Nat) (pe_5 : Nat) (pe_6 : Nat) (pe_7 : Nat) (pe_8 : Nat) (pe_9 : Nat) (pe_10 : Nat)  : CtI (S := Unit) l yX4_lonelyPersons cX4_lonelyPersons 3 (some .int) (rmD 1 0 0) G [.ref pl] [(pl, .inr (4, [.ref ho, .ref pl_1, .int 0, .int (-1), .int (-1), .ref pl_5])), (ho, .inr (2, [.ref fl, .ref pe, .ref ru, .int 0, .ref ho_4, .ref ho_5, .ref ho_6, .int 0, .ref ho_8, .ref ho_9, .ref ho_10, .ref ho_11, .ref ho_12, .int 50])), (pe, .inr (3, [.int 0, .ref pe_1, .ref pe_2, .ref pe_3, .ref pe_4, .ref pe_5, .ref pe_6, .ref pe_7, .ref pe_8, .ref pe_9, .ref pe_10]))] (fun r _ => r = 0) (fun _ => [(pl, .inr (4, [.ref ho, .ref pl_1, .int 0, .int (-1), .int (-1), .ref pl_5])), (ho, .inr (2, [.ref fl, .ref pe, .ref ru, .int 0, .ref ho_4, .ref ho_5, .ref ho_6, .int 0, .ref ho_8, .ref ho_9, .ref ho_10, .ref ho_11, .ref ho_12, .int 50])), (pe, .inr (3, [.int 0, .ref pe_1, .ref pe_2, .ref pe_3, .ref pe_4, .ref pe_5, .ref pe_6, .ref pe_7, .ref pe_8, .ref pe_9, .ref pe_10]))]) := by
  refine ctI_of (own := RX4) (by decide +kernel) rfl (Nat.le_of_ble_eq_true rfl) ?_
  intro p e s m below meth c A ls F hr hlk hnm hK hP hD hA hS hl
  have hx := F.1
  have hb := F.2.1
  have hown := F.2.2.2.1
  have hl : lv_has ls 3 [(0, .ref pl)] := hl
  refine lv_iconst (v := 0) hx hb dX4_lonelyPersons_0 (by decide) ?_
  refine lv_istore_n (lv' := [(1, .int 0), (0, .ref pl)]) hx hb dX4_lonelyPersons_1 rfl hl (by decide) rfl (fun ls hl => ?_)
  refine lv_iconst (v := 0) hx hb dX4_lonelyPersons_2 (by decide) ?_
  refine lv_istore_n (lv' := [(2, .int 0), (1, .int 0), (0, .ref pl)]) hx hb dX4_lonelyPersons_3 rfl hl (by decide) rfl (fun ls hl => ?_)
  refine lv_iload_n hx hb dX4_lonelyPersons_4 rfl (lv_at hl 0 rfl) ?_
  refine lv_aload_n hx hb dX4_lonelyPersons_5 rfl (lv_at hl 2 rfl) ?_
  refine g_get F hK hP 0 rfl clX4 0 (by decide) flX4_28 rfl dX4_lonelyPersons_6 ?_
  refine g_get F hK hP 1 rfl clX2 1 (by decide) flX4_39 rfl dX4_lonelyPersons_9 ?_
  refine g_get F hK hP 2 rfl clX3 0 (by decide) flX4_45 rfl dX4_lonelyPersons_12 ?_
  refine lv_icmp_ge (tgt := 35) hx hb dX4_lonelyPersons_15 (by decide) (fun _ => ?_) (fun h_ => absurd (by decide +kernel) h_)
  refine lv_iload_n hx hb dX4_lonelyPersons_35 rfl (lv_at hl 1 rfl) ?_
  exact r_i F hr hlk hP hD hS () [0, 1, 2] rfl rfl rfl dX4_lonelyPersons_36 (Nat.le_of_ble_eq_true rfl) (Nat.le_of_ble_eq_true rfl)
set_option maxHeartbeats 4000000 in
set_option maxRecDepth 100000 in
theorem k_X4_goRound (l : Launch) (G : Gx) (pl : Nat) (ho : Nat) (pl_1 : Nat) (pl_5 : Nat) (fl : Nat) (pe : Nat) (ru : Nat) (ho_4 : Nat) (ho_5 : Nat) (ho_6 : Nat) (ho_8 : Nat) (ho_9 : Nat) (ho_10 : Nat) (ho_11 : Nat) (ho_12 : Nat) (pe_1 : Nat) (pe_2 : Nat) (pe_3 : Nat) (pe_4 : Nat) (pe_5 : Nat) (pe_6 : Nat) (pe_7 : Nat) (pe_8 : Nat) (pe_9 : Nat) (pe_10 : Nat)  : CtI (S := Unit) l yX4_goRound cX4_goRound 4 (some .boolean) (rmD 1 0 0) G [.ref pl] [(pl, .inr (4, [.ref ho, .ref pl_1, .int 0, .int (-1), .int (-1), .ref pl_5])), (ho, .inr (2, [.ref fl, .ref pe, .ref ru, .int 0, .ref ho_4, .ref ho_5, .ref ho_6, .int 0, .ref ho_8, .ref ho_9, .ref ho_10, .ref ho_11, .ref ho_12, .int 50])), (pe, .inr (3, [.int 0, .ref pe_1, .ref pe_2, .ref pe_3, .ref pe_4, .ref pe_5, .ref pe_6, .ref pe_7, .ref pe_8, .ref pe_9, .ref pe_10]))] (fun r _ => r = 0) (fun _ => [(pl, .inr (4, [.ref ho, .ref pl_1, .int 0, .int (-1), .int (-1), .ref pl_5])), (ho, .inr (2, [.ref fl, .ref pe, .ref ru, .int 0, .ref ho_4, .ref ho_5, .ref ho_6, .int 0, .ref ho_8, .ref ho_9, .ref ho_10, .ref ho_11, .ref ho_12, .int 50])), (pe, .inr (3, [.int 0, .ref pe_1, .ref pe_2, .ref pe_3, .ref pe_4, .ref pe_5, .ref pe_6, .ref pe_7, .ref pe_8, .ref pe_9, .ref pe_10]))]) := by
  refine ctI_of (own := RX4) (by decide +kernel) rfl (Nat.le_of_ble_eq_true rfl) ?_
  intro p e s m below meth c A ls F hr hlk hnm hK hP hD hA hS hl
  have hx := F.1
  have hb := F.2.1
  have hown := F.2.2.2.1
  have hl : lv_has ls 4 [(0, .ref pl)] := hl
  refine lv_iconst (v := 0) hx hb dX4_goRound_0 (by decide) ?_
  refine lv_istore_n (lv' := [(1, .int 0), (0, .ref pl)]) hx hb dX4_goRound_1 rfl hl (by decide) rfl (fun ls hl => ?_)
  refine lv_iconst (v := 0) hx hb dX4_goRound_2 (by decide) ?_
  refine lv_istore_n (lv' := [(2, .int 0), (1, .int 0), (0, .ref pl)]) hx hb dX4_goRound_3 rfl hl (by decide) rfl (fun ls hl => ?_)
  refine lv_iload_n hx hb dX4_goRound_4 rfl (lv_at hl 0 rfl) ?_
  refine lv_aload_n hx hb dX4_goRound_5 rfl (lv_at hl 2 rfl) ?_
  refine g_get F hK hP 0 rfl clX4 0 (by decide) flX4_28 rfl dX4_goRound_6 ?_
  refine g_get F hK hP 1 rfl clX2 1 (by decide) flX4_39 rfl dX4_goRound_9 ?_
  refine g_get F hK hP 2 rfl clX3 0 (by decide) flX4_45 rfl dX4_goRound_12 ?_
  refine lv_icmp_ge (tgt := 49) hx hb dX4_goRound_15 (by decide) (fun _ => ?_) (fun h_ => absurd (by decide +kernel) h_)
  refine lv_iload_n hx hb dX4_goRound_49 rfl (lv_at hl 1 rfl) ?_
  exact r_z F hr hlk hP hD hS () [0, 1, 2] rfl rfl rfl dX4_goRound_50 (Nat.le_of_ble_eq_true rfl) (Nat.le_of_ble_eq_true rfl) (by decide)
set_option maxHeartbeats 4000000 in
set_option maxRecDepth 100000 in
theorem k_X4_unmetWithin (l : Launch) (G : Gx) (pl : Nat) (a : Int32) (ho : Nat) (pl_1 : Nat) (pl_5 : Nat) (fl : Nat) (pe : Nat) (ru : Nat) (ho_4 : Nat) (ho_5 : Nat) (ho_6 : Nat) (ho_8 : Nat) (ho_9 : Nat) (ho_10 : Nat) (ho_11 : Nat) (ho_12 : Nat)  : CtI (S := Unit) l yX4_unmetWithin cX4_unmetWithin 6 (some .int) (rmD 1 0 0) G [.ref pl, .int a] [(pl, .inr (4, [.ref ho, .ref pl_1, .int 0, .int (-1), .int (-1), .ref pl_5])), (ho, .inr (2, [.ref fl, .ref pe, .ref ru, .int 0, .ref ho_4, .ref ho_5, .ref ho_6, .int 0, .ref ho_8, .ref ho_9, .ref ho_10, .ref ho_11, .ref ho_12, .int 50]))] (fun r _ => r = 0) (fun _ => [(pl, .inr (4, [.ref ho, .ref pl_1, .int 0, .int (-1), .int (-1), .ref pl_5])), (ho, .inr (2, [.ref fl, .ref pe, .ref ru, .int 0, .ref ho_4, .ref ho_5, .ref ho_6, .int 0, .ref ho_8, .ref ho_9, .ref ho_10, .ref ho_11, .ref ho_12, .int 50]))]) := by
  refine ctI_of (own := RX4) (by decide +kernel) rfl (Nat.le_of_ble_eq_true rfl) ?_
  intro p e s m below meth c A ls F hr hlk hnm hK hP hD hA hS hl
  have hx := F.1
  have hb := F.2.1
  have hown := F.2.2.2.1
  have hl : lv_has ls 6 [(0, .ref pl), (1, .int a)] := hl
  refine lv_iconst (v := 0) hx hb dX4_unmetWithin_0 (by decide) ?_
  refine lv_istore_n (lv' := [(2, .int 0), (0, .ref pl), (1, .int a)]) hx hb dX4_unmetWithin_1 rfl hl (by decide) rfl (fun ls hl => ?_)
  refine lv_iconst (v := 0) hx hb dX4_unmetWithin_2 (by decide) ?_
  refine lv_istore_n (lv' := [(3, .int 0), (2, .int 0), (0, .ref pl), (1, .int a)]) hx hb dX4_unmetWithin_3 rfl hl (by decide) rfl (fun ls hl => ?_)
  refine lv_iload_n hx hb dX4_unmetWithin_4 rfl (lv_at hl 0 rfl) ?_
  refine lv_aload_n hx hb dX4_unmetWithin_5 rfl (lv_at hl 2 rfl) ?_
  refine g_get F hK hP 0 rfl clX4 0 (by decide) flX4_28 rfl dX4_unmetWithin_6 ?_
  refine g_get F hK hP 1 rfl clX2 7 (by decide) flX4_127 rfl dX4_unmetWithin_9 ?_
  refine lv_icmp_ge (tgt := 93) hx hb dX4_unmetWithin_12 (by decide) (fun _ => ?_) (fun h_ => absurd (by decide +kernel) h_)
  refine lv_iload_n hx hb dX4_unmetWithin_93 rfl (lv_at hl 1 rfl) ?_
  exact r_i F hr hlk hP hD hS () [0, 1] rfl rfl rfl dX4_unmetWithin_94 (Nat.le_of_ble_eq_true rfl) (Nat.le_of_ble_eq_true rfl)
set_option maxHeartbeats 4000000 in
set_option maxRecDepth 100000 in
theorem k_X8_settle (l : Launch) (G : Gx) (se : Nat) (a : Int32) (pl : Nat) (se_1 : Nat) (se_2 : Nat) (ho : Nat) (pl_1 : Nat) (pl_5 : Nat) (fl : Nat) (pe : Nat) (ru : Nat) (ho_4 : Nat) (ho_5 : Nat) (ho_6 : Nat) (ho_8 : Nat) (ho_9 : Nat) (ho_10 : Nat) (ho_11 : Nat) (ho_12 : Nat) (pe_1 : Nat) (pe_2 : Nat) (pe_3 : Nat) (pe_4 : Nat) (pe_5 : Nat) (pe_6 : Nat) (pe_7 : Nat) (pe_8 : Nat) (pe_9 : Nat) (pe_10 : Nat) (fl_3 : Nat) (fl_4 : Nat) (fl_5 : Nat) (fl_6 : Nat) (fl_7 : Nat)  : CtV (S := Unit) l yX8_settle cX8_settle 4 none (rmD 1 0 0) G [.ref se, .int a] [(se, .inr (8, [.ref pl, .ref se_1, .ref se_2])), (pl, .inr (4, [.ref ho, .ref pl_1, .int 0, .int (-1), .int (-1), .ref pl_5])), (ho, .inr (2, [.ref fl, .ref pe, .ref ru, .int 0, .ref ho_4, .ref ho_5, .ref ho_6, .int 0, .ref ho_8, .ref ho_9, .ref ho_10, .ref ho_11, .ref ho_12, .int 50])), (pe, .inr (3, [.int 0, .ref pe_1, .ref pe_2, .ref pe_3, .ref pe_4, .ref pe_5, .ref pe_6, .ref pe_7, .ref pe_8, .ref pe_9, .ref pe_10])), (fl, .inr (1, [.int 0, .int 0, .int 0, .ref fl_3, .ref fl_4, .ref fl_5, .ref fl_6, .ref fl_7]))] (fun _ => True) (fun _ => [(se, .inr (8, [.ref pl, .ref se_1, .ref se_2])), (pl, .inr (4, [.ref ho, .ref pl_1, .int 0, .int (-1), .int (-1), .ref pl_5])), (ho, .inr (2, [.ref fl, .ref pe, .ref ru, .int 0, .ref ho_4, .ref ho_5, .ref ho_6, .int 0, .ref ho_8, .ref ho_9, .ref ho_10, .ref ho_11, .ref ho_12, .int 50])), (pe, .inr (3, [.int 0, .ref pe_1, .ref pe_2, .ref pe_3, .ref pe_4, .ref pe_5, .ref pe_6, .ref pe_7, .ref pe_8, .ref pe_9, .ref pe_10])), (fl, .inr (1, [.int 0, .int 0, .int 0, .ref fl_3, .ref fl_4, .ref fl_5, .ref fl_6, .ref fl_7]))]) := by
  refine ctV_of (own := RX8) (by decide +kernel) rfl (Nat.le_of_ble_eq_true rfl) ?_
  intro p e s m below meth c A ls F hr hlk hnm hK hP hD hA hS hl
  have hx := F.1
  have hb := F.2.1
  have hown := F.2.2.2.1
  have hl : lv_has ls 4 [(0, .ref se), (1, .int a)] := hl
  refine lv_aload_n hx hb dX8_settle_0 rfl (lv_at hl 0 rfl) ?_
  refine g_get F hK hP 0 rfl clX8 0 (by decide) flX8_18 rfl dX8_settle_1 ?_
  refine g_get F hK hP 1 rfl clX4 0 (by decide) flX8_22 rfl dX8_settle_4 ?_
  refine lv_astore_n (lv' := [(2, .ref ho), (0, .ref se), (1, .int a)]) hx hb dX8_settle_7 rfl hl (by decide) rfl (fun ls hl => ?_)
  refine lv_iconst (v := 0) hx hb dX8_settle_8 (by decide) ?_
  refine lv_istore_n (lv' := [(3, .int 0), (2, .ref ho), (0, .ref se), (1, .int a)]) hx hb dX8_settle_9 rfl hl (by decide) rfl (fun ls hl => ?_)
  refine lv_iload_n hx hb dX8_settle_10 rfl (lv_at hl 0 rfl) ?_
  refine lv_aload_n hx hb dX8_settle_11 rfl (lv_at hl 1 rfl) ?_
  refine g_get F hK hP 2 rfl clX2 0 (by decide) flX8_28 rfl dX8_settle_12 ?_
  refine g_get F hK hP 4 rfl clX1 0 (by decide) flX8_34 rfl dX8_settle_15 ?_
  refine lv_icmp_ge (tgt := 52) hx hb dX8_settle_18 (by decide) (fun _ => ?_) (fun h_ => absurd (by decide +kernel) h_)
  refine lv_iconst (v := 0) hx hb dX8_settle_52 (by decide) ?_
  refine lv_istore_n (lv' := [(3, .int 0), (2, .ref ho), (0, .ref se), (1, .int a)]) hx hb dX8_settle_53 rfl hl (by decide) rfl (fun ls hl => ?_)
  refine lv_iload_n hx hb dX8_settle_54 rfl (lv_at hl 0 rfl) ?_
  refine lv_aload_n hx hb dX8_settle_55 rfl (lv_at hl 1 rfl) ?_
  refine g_get F hK hP 2 rfl clX2 1 (by decide) flX8_46 rfl dX8_settle_56 ?_
  refine g_get F hK hP 3 rfl clX3 0 (by decide) flX8_50 rfl dX8_settle_59 ?_
  refine lv_icmp_ge (tgt := 102) hx hb dX8_settle_62 (by decide) (fun _ => ?_) (fun h_ => absurd (by decide +kernel) h_)
  refine lv_iconst (v := 0) hx hb dX8_settle_102 (by decide) ?_
  refine lv_istore_n (lv' := [(3, .int 0), (2, .ref ho), (0, .ref se), (1, .int a)]) hx hb dX8_settle_103 rfl hl (by decide) rfl (fun ls hl => ?_)
  refine lv_iload_n hx hb dX8_settle_104 rfl (lv_at hl 0 rfl) ?_
  refine lv_aload_n hx hb dX8_settle_105 rfl (lv_at hl 1 rfl) ?_
  refine g_get F hK hP 2 rfl clX2 1 (by decide) flX8_46 rfl dX8_settle_106 ?_
  refine g_get F hK hP 3 rfl clX3 0 (by decide) flX8_50 rfl dX8_settle_109 ?_
  refine lv_icmp_ge (tgt := 151) hx hb dX8_settle_112 (by decide) (fun _ => ?_) (fun h_ => absurd (by decide +kernel) h_)
  exact r_v F hr hlk hP hD hS () [0, 1, 2, 3, 4] rfl rfl trivial dX8_settle_151 (Nat.le_of_ble_eq_true rfl) (Nat.le_of_ble_eq_true rfl)
set_option maxHeartbeats 4000000 in
set_option maxRecDepth 100000 in
theorem k_X8_fitNow (l : Launch) (G : Gx) (se : Nat) (pl : Nat) (se_1 : Nat) (se_2 : Nat) (ho : Nat) (pl_1 : Nat) (pl_5 : Nat) (fl : Nat) (pe : Nat) (ru : Nat) (ho_4 : Nat) (ho_5 : Nat) (ho_6 : Nat) (ho_8 : Nat) (ho_9 : Nat) (ho_10 : Nat) (ho_11 : Nat) (ho_12 : Nat) (pe_1 : Nat) (pe_2 : Nat) (pe_3 : Nat) (pe_4 : Nat) (pe_5 : Nat) (pe_6 : Nat) (pe_7 : Nat) (pe_8 : Nat) (pe_9 : Nat) (pe_10 : Nat) (fl_3 : Nat) (fl_4 : Nat) (fl_5 : Nat) (fl_6 : Nat) (fl_7 : Nat)  : CtI (S := Unit) l yX8_fitNow cX8_fitNow 5 (some .int) (rmD 1 0 0) G [.ref se] [(se, .inr (8, [.ref pl, .ref se_1, .ref se_2])), (pl, .inr (4, [.ref ho, .ref pl_1, .int 0, .int (-1), .int (-1), .ref pl_5])), (ho, .inr (2, [.ref fl, .ref pe, .ref ru, .int 0, .ref ho_4, .ref ho_5, .ref ho_6, .int 0, .ref ho_8, .ref ho_9, .ref ho_10, .ref ho_11, .ref ho_12, .int 50])), (pe, .inr (3, [.int 0, .ref pe_1, .ref pe_2, .ref pe_3, .ref pe_4, .ref pe_5, .ref pe_6, .ref pe_7, .ref pe_8, .ref pe_9, .ref pe_10])), (fl, .inr (1, [.int 0, .int 0, .int 0, .ref fl_3, .ref fl_4, .ref fl_5, .ref fl_6, .ref fl_7]))] (fun r _ => r = 0) (fun _ => [(se, .inr (8, [.ref pl, .ref se_1, .ref se_2])), (pl, .inr (4, [.ref ho, .ref pl_1, .int 0, .int (-1), .int (-1), .ref pl_5])), (ho, .inr (2, [.ref fl, .ref pe, .ref ru, .int 0, .ref ho_4, .ref ho_5, .ref ho_6, .int 0, .ref ho_8, .ref ho_9, .ref ho_10, .ref ho_11, .ref ho_12, .int 50])), (pe, .inr (3, [.int 0, .ref pe_1, .ref pe_2, .ref pe_3, .ref pe_4, .ref pe_5, .ref pe_6, .ref pe_7, .ref pe_8, .ref pe_9, .ref pe_10])), (fl, .inr (1, [.int 0, .int 0, .int 0, .ref fl_3, .ref fl_4, .ref fl_5, .ref fl_6, .ref fl_7]))]) := by
  refine ctI_of (own := RX8) (by decide +kernel) rfl (Nat.le_of_ble_eq_true rfl) ?_
  intro p e s m below meth c A ls F hr hlk hnm hK hP hD hA hS hl
  have hx := F.1
  have hb := F.2.1
  have hown := F.2.2.2.1
  have hl : lv_has ls 5 [(0, .ref se)] := hl
  refine lv_aload_n hx hb dX8_fitNow_0 rfl (lv_at hl 0 rfl) ?_
  refine g_get F hK hP 0 rfl clX8 0 (by decide) flX8_18 rfl dX8_fitNow_1 ?_
  refine g_get F hK hP 1 rfl clX4 0 (by decide) flX8_22 rfl dX8_fitNow_4 ?_
  refine lv_astore_n (lv' := [(1, .ref ho), (0, .ref se)]) hx hb dX8_fitNow_7 rfl hl (by decide) rfl (fun ls hl => ?_)
  refine lv_iconst (v := 0) hx hb dX8_fitNow_8 (by decide) ?_
  refine lv_istore_n (lv' := [(2, .int 0), (1, .ref ho), (0, .ref se)]) hx hb dX8_fitNow_9 rfl hl (by decide) rfl (fun ls hl => ?_)
  refine lv_iconst (v := 0) hx hb dX8_fitNow_10 (by decide) ?_
  refine lv_istore_n (lv' := [(3, .int 0), (2, .int 0), (1, .ref ho), (0, .ref se)]) hx hb dX8_fitNow_11 rfl hl (by decide) rfl (fun ls hl => ?_)
  refine lv_iload_n hx hb dX8_fitNow_12 rfl (lv_at hl 0 rfl) ?_
  refine lv_aload_n hx hb dX8_fitNow_13 rfl (lv_at hl 2 rfl) ?_
  refine g_get F hK hP 2 rfl clX2 7 (by decide) flX8_71 rfl dX8_fitNow_14 ?_
  refine lv_icmp_ge (tgt := 70) hx hb dX8_fitNow_17 (by decide) (fun _ => ?_) (fun h_ => absurd (by decide +kernel) h_)
  refine lv_iconst (v := 0) hx hb dX8_fitNow_70 (by decide) ?_
  refine lv_istore_n (lv' := [(3, .int 0), (2, .int 0), (1, .ref ho), (0, .ref se)]) hx hb dX8_fitNow_71 rfl hl (by decide) rfl (fun ls hl => ?_)
  refine lv_iload_n hx hb dX8_fitNow_72 rfl (lv_at hl 0 rfl) ?_
  refine lv_aload_n hx hb dX8_fitNow_73 rfl (lv_at hl 2 rfl) ?_
  refine g_get F hK hP 2 rfl clX2 1 (by decide) flX8_46 rfl dX8_fitNow_74 ?_
  refine g_get F hK hP 3 rfl clX3 0 (by decide) flX8_50 rfl dX8_fitNow_77 ?_
  refine lv_icmp_ge (tgt := 116) hx hb dX8_fitNow_80 (by decide) (fun _ => ?_) (fun h_ => absurd (by decide +kernel) h_)
  refine lv_iload_n hx hb dX8_fitNow_116 rfl (lv_at hl 1 rfl) ?_
  exact r_i F hr hlk hP hD hS () [0, 1, 2, 3, 4] rfl rfl rfl dX8_fitNow_117 (Nat.le_of_ble_eq_true rfl) (Nat.le_of_ble_eq_true rfl)
set_option maxHeartbeats 4000000 in
set_option maxRecDepth 100000 in
theorem k_X8_exchangeFirst (l : Launch) (G : Gx) (se : Nat) (pl : Nat) (se_1 : Nat) (se_2 : Nat) (ho : Nat) (pl_1 : Nat) (pl_5 : Nat) (fl : Nat) (pe : Nat) (ru : Nat) (ho_4 : Nat) (ho_5 : Nat) (ho_6 : Nat) (ho_8 : Nat) (ho_9 : Nat) (ho_10 : Nat) (ho_11 : Nat) (ho_12 : Nat) (pe_1 : Nat) (pe_2 : Nat) (pe_3 : Nat) (pe_4 : Nat) (pe_5 : Nat) (pe_6 : Nat) (pe_7 : Nat) (pe_8 : Nat) (pe_9 : Nat) (pe_10 : Nat) (fl_3 : Nat) (fl_4 : Nat) (fl_5 : Nat) (fl_6 : Nat) (fl_7 : Nat)  : CtI (S := Unit) l yX8_exchangeFirst cX8_exchangeFirst 4 (some .boolean) (rmD 2 0 0) G [.ref se] [(se, .inr (8, [.ref pl, .ref se_1, .ref se_2])), (pl, .inr (4, [.ref ho, .ref pl_1, .int 0, .int (-1), .int (-1), .ref pl_5])), (ho, .inr (2, [.ref fl, .ref pe, .ref ru, .int 0, .ref ho_4, .ref ho_5, .ref ho_6, .int 0, .ref ho_8, .ref ho_9, .ref ho_10, .ref ho_11, .ref ho_12, .int 50])), (pe, .inr (3, [.int 0, .ref pe_1, .ref pe_2, .ref pe_3, .ref pe_4, .ref pe_5, .ref pe_6, .ref pe_7, .ref pe_8, .ref pe_9, .ref pe_10])), (fl, .inr (1, [.int 0, .int 0, .int 0, .ref fl_3, .ref fl_4, .ref fl_5, .ref fl_6, .ref fl_7]))] (fun r _ => r = 0) (fun _ => [(se, .inr (8, [.ref pl, .ref se_1, .ref se_2])), (pl, .inr (4, [.ref ho, .ref pl_1, .int 0, .int (-1), .int (-1), .ref pl_5])), (ho, .inr (2, [.ref fl, .ref pe, .ref ru, .int 0, .ref ho_4, .ref ho_5, .ref ho_6, .int 0, .ref ho_8, .ref ho_9, .ref ho_10, .ref ho_11, .ref ho_12, .int 50])), (pe, .inr (3, [.int 0, .ref pe_1, .ref pe_2, .ref pe_3, .ref pe_4, .ref pe_5, .ref pe_6, .ref pe_7, .ref pe_8, .ref pe_9, .ref pe_10])), (fl, .inr (1, [.int 0, .int 0, .int 0, .ref fl_3, .ref fl_4, .ref fl_5, .ref fl_6, .ref fl_7]))]) := by
  refine ctI_of (own := RX8) (by decide +kernel) rfl (Nat.le_of_ble_eq_true rfl) ?_
  intro p e s m below meth c A ls F hr hlk hnm hK hP hD hA hS hl
  have hx := F.1
  have hb := F.2.1
  have hown := F.2.2.2.1
  have hl : lv_has ls 4 [(0, .ref se)] := hl
  refine lv_aload_n hx hb dX8_exchangeFirst_0 rfl (lv_at hl 0 rfl) ?_
  refine cvi (wr := []) (As := []) (rest := []) (b := se) (k1 := 0) (s1 := 0) F hK hP hD hS hA (k_X8_fitNow l G se pl se_1 se_2 ho pl_1 pl_5 fl pe ru ho_4 ho_5 ho_6 ho_8 ho_9 ho_10 ho_11 ho_12 pe_1 pe_2 pe_3 pe_4 pe_5 pe_6 pe_7 pe_8 pe_9 pe_10 fl_3 fl_4 fl_5 fl_6 fl_7) kmV_X8_fitNow mlX8_87 clX8 rfl 0 rfl ⟨(Nat.le_of_ble_eq_true rfl), (Nat.le_of_ble_eq_true rfl)⟩ [0, 1, 2, 3, 4] [] rfl rfl rfl rfl (by decide) hl.1 rfl (Nat.le_of_ble_eq_true rfl) dX8_exchangeFirst_1 ⟨(Nat.le_of_ble_eq_true rfl), (Nat.le_of_ble_eq_true rfl)⟩ rfl rfl (fun r2 u1 H locs hwr2 (hP : va_P G.1 vwCl [(se, .inr (8, [.ref pl, .ref se_1, .ref se_2])), (pl, .inr (4, [.ref ho, .ref pl_1, .int 0, .int (-1), .int (-1), .ref pl_5])), (ho, .inr (2, [.ref fl, .ref pe, .ref ru, .int 0, .ref ho_4, .ref ho_5, .ref ho_6, .int 0, .ref ho_8, .ref ho_9, .ref ho_10, .ref ho_11, .ref ho_12, .int 50])), (pe, .inr (3, [.int 0, .ref pe_1, .ref pe_2, .ref pe_3, .ref pe_4, .ref pe_5, .ref pe_6, .ref pe_7, .ref pe_8, .ref pe_9, .ref pe_10])), (fl, .inr (1, [.int 0, .int 0, .int 0, .ref fl_3, .ref fl_4, .ref fl_5, .ref fl_6, .ref fl_7]))] H) (hD : va_D A [(se, .inr (8, [.ref pl, .ref se_1, .ref se_2])), (pl, .inr (4, [.ref ho, .ref pl_1, .int 0, .int (-1), .int (-1), .ref pl_5])), (ho, .inr (2, [.ref fl, .ref pe, .ref ru, .int 0, .ref ho_4, .ref ho_5, .ref ho_6, .int 0, .ref ho_8, .ref ho_9, .ref ho_10, .ref ho_11, .ref ho_12, .int 50])), (pe, .inr (3, [.int 0, .ref pe_1, .ref pe_2, .ref pe_3, .ref pe_4, .ref pe_5, .ref pe_6, .ref pe_7, .ref pe_8, .ref pe_9, .ref pe_10])), (fl, .inr (1, [.int 0, .int 0, .int 0, .ref fl_3, .ref fl_4, .ref fl_5, .ref fl_6, .ref fl_7]))]) hS => ?_)
  subst hwr2
  refine lv_istore_n (lv' := [(1, .int 0), (0, .ref se)]) hx hb dX8_exchangeFirst_4 rfl hl (by decide) rfl (fun ls hl => ?_)
  refine lv_iconst (v := 0) hx hb dX8_exchangeFirst_5 (by decide) ?_
  refine lv_istore_n (lv' := [(2, .int 0), (1, .int 0), (0, .ref se)]) hx hb dX8_exchangeFirst_6 rfl hl (by decide) rfl (fun ls hl => ?_)
  refine lv_iload_n hx hb dX8_exchangeFirst_7 rfl (lv_at hl 0 rfl) ?_
  refine lv_aload_n hx hb dX8_exchangeFirst_8 rfl (lv_at hl 2 rfl) ?_
  refine g_get F hK hP 0 rfl clX8 0 (by decide) flX8_18 rfl dX8_exchangeFirst_9 ?_
  refine g_get F hK hP 1 rfl clX4 0 (by decide) flX8_22 rfl dX8_exchangeFirst_12 ?_
  refine g_get F hK hP 2 rfl clX2 1 (by decide) flX8_46 rfl dX8_exchangeFirst_15 ?_
  refine g_get F hK hP 3 rfl clX3 0 (by decide) flX8_50 rfl dX8_exchangeFirst_18 ?_
  refine lv_icmp_ge (tgt := 110) hx hb dX8_exchangeFirst_21 (by decide) (fun _ => ?_) (fun h_ => absurd (by decide +kernel) h_)
  refine lv_iconst (v := 0) hx hb dX8_exchangeFirst_110 (by decide) ?_
  exact r_z F hr hlk hP hD hS () [0, 1, 2, 3, 4] rfl rfl rfl dX8_exchangeFirst_111 (Nat.le_of_ble_eq_true rfl) (Nat.le_of_ble_eq_true rfl) (by decide)
set_option maxHeartbeats 4000000 in
set_option maxRecDepth 100000 in
theorem k_X8_exchangeAll (l : Launch) (G : Gx) (se : Nat) (pl : Nat) (se_1 : Nat) (se_2 : Nat) (ho : Nat) (pl_1 : Nat) (pl_5 : Nat) (fl : Nat) (pe : Nat) (ru : Nat) (ho_4 : Nat) (ho_5 : Nat) (ho_6 : Nat) (ho_8 : Nat) (ho_9 : Nat) (ho_10 : Nat) (ho_11 : Nat) (ho_12 : Nat) (pe_1 : Nat) (pe_2 : Nat) (pe_3 : Nat) (pe_4 : Nat) (pe_5 : Nat) (pe_6 : Nat) (pe_7 : Nat) (pe_8 : Nat) (pe_9 : Nat) (pe_10 : Nat) (fl_3 : Nat) (fl_4 : Nat) (fl_5 : Nat) (fl_6 : Nat) (fl_7 : Nat)  : CtI (S := Unit) l yX8_exchangeAll cX8_exchangeAll 2 (some .int) (rmD 3 0 0) G [.ref se] [(se, .inr (8, [.ref pl, .ref se_1, .ref se_2])), (pl, .inr (4, [.ref ho, .ref pl_1, .int 0, .int (-1), .int (-1), .ref pl_5])), (ho, .inr (2, [.ref fl, .ref pe, .ref ru, .int 0, .ref ho_4, .ref ho_5, .ref ho_6, .int 0, .ref ho_8, .ref ho_9, .ref ho_10, .ref ho_11, .ref ho_12, .int 50])), (pe, .inr (3, [.int 0, .ref pe_1, .ref pe_2, .ref pe_3, .ref pe_4, .ref pe_5, .ref pe_6, .ref pe_7, .ref pe_8, .ref pe_9, .ref pe_10])), (fl, .inr (1, [.int 0, .int 0, .int 0, .ref fl_3, .ref fl_4, .ref fl_5, .ref fl_6, .ref fl_7]))] (fun r _ => r = 0) (fun _ => [(se, .inr (8, [.ref pl, .ref se_1, .ref se_2])), (pl, .inr (4, [.ref ho, .ref pl_1, .int 0, .int (-1), .int (-1), .ref pl_5])), (ho, .inr (2, [.ref fl, .ref pe, .ref ru, .int 0, .ref ho_4, .ref ho_5, .ref ho_6, .int 0, .ref ho_8, .ref ho_9, .ref ho_10, .ref ho_11, .ref ho_12, .int 50])), (pe, .inr (3, [.int 0, .ref pe_1, .ref pe_2, .ref pe_3, .ref pe_4, .ref pe_5, .ref pe_6, .ref pe_7, .ref pe_8, .ref pe_9, .ref pe_10])), (fl, .inr (1, [.int 0, .int 0, .int 0, .ref fl_3, .ref fl_4, .ref fl_5, .ref fl_6, .ref fl_7]))]) := by
  refine ctI_of (own := RX8) (by decide +kernel) rfl (Nat.le_of_ble_eq_true rfl) ?_
  intro p e s m below meth c A ls F hr hlk hnm hK hP hD hA hS hl
  have hx := F.1
  have hb := F.2.1
  have hown := F.2.2.2.1
  have hl : lv_has ls 2 [(0, .ref se)] := hl
  refine lv_iconst (v := 0) hx hb dX8_exchangeAll_0 (by decide) ?_
  refine lv_istore_n (lv' := [(1, .int 0), (0, .ref se)]) hx hb dX8_exchangeAll_1 rfl hl (by decide) rfl (fun ls hl => ?_)
  refine lv_iload_n hx hb dX8_exchangeAll_2 rfl (lv_at hl 0 rfl) ?_
  refine lv_bipush (v := 50) hx hb dX8_exchangeAll_3 (by decide) ?_
  refine lv_icmp_ge (tgt := 23) hx hb dX8_exchangeAll_5 (by decide) (fun h_ => absurd h_ (by decide +kernel)) (fun _ => ?_)
  refine lv_aload_n hx hb dX8_exchangeAll_8 rfl (lv_at hl 1 rfl) ?_
  refine cvi (wr := []) (As := []) (rest := []) (b := se) (k1 := 0) (s1 := 0) F hK hP hD hS hA (k_X8_exchangeFirst l G se pl se_1 se_2 ho pl_1 pl_5 fl pe ru ho_4 ho_5 ho_6 ho_8 ho_9 ho_10 ho_11 ho_12 pe_1 pe_2 pe_3 pe_4 pe_5 pe_6 pe_7 pe_8 pe_9 pe_10 fl_3 fl_4 fl_5 fl_6 fl_7) kmV_X8_exchangeFirst mlX8_83 clX8 rfl 0 rfl ⟨(Nat.le_of_ble_eq_true rfl), (Nat.le_of_ble_eq_true rfl)⟩ [0, 1, 2, 3, 4] [] rfl rfl rfl rfl (by decide) hl.1 rfl (Nat.le_of_ble_eq_true rfl) dX8_exchangeAll_9 ⟨(Nat.le_of_ble_eq_true rfl), (Nat.le_of_ble_eq_true rfl)⟩ rfl rfl (fun r2 u1 H locs hwr2 (hP : va_P G.1 vwCl [(se, .inr (8, [.ref pl, .ref se_1, .ref se_2])), (pl, .inr (4, [.ref ho, .ref pl_1, .int 0, .int (-1), .int (-1), .ref pl_5])), (ho, .inr (2, [.ref fl, .ref pe, .ref ru, .int 0, .ref ho_4, .ref ho_5, .ref ho_6, .int 0, .ref ho_8, .ref ho_9, .ref ho_10, .ref ho_11, .ref ho_12, .int 50])), (pe, .inr (3, [.int 0, .ref pe_1, .ref pe_2, .ref pe_3, .ref pe_4, .ref pe_5, .ref pe_6, .ref pe_7, .ref pe_8, .ref pe_9, .ref pe_10])), (fl, .inr (1, [.int 0, .int 0, .int 0, .ref fl_3, .ref fl_4, .ref fl_5, .ref fl_6, .ref fl_7]))] H) (hD : va_D A [(se, .inr (8, [.ref pl, .ref se_1, .ref se_2])), (pl, .inr (4, [.ref ho, .ref pl_1, .int 0, .int (-1), .int (-1), .ref pl_5])), (ho, .inr (2, [.ref fl, .ref pe, .ref ru, .int 0, .ref ho_4, .ref ho_5, .ref ho_6, .int 0, .ref ho_8, .ref ho_9, .ref ho_10, .ref ho_11, .ref ho_12, .int 50])), (pe, .inr (3, [.int 0, .ref pe_1, .ref pe_2, .ref pe_3, .ref pe_4, .ref pe_5, .ref pe_6, .ref pe_7, .ref pe_8, .ref pe_9, .ref pe_10])), (fl, .inr (1, [.int 0, .int 0, .int 0, .ref fl_3, .ref fl_4, .ref fl_5, .ref fl_6, .ref fl_7]))]) hS => ?_)
  subst hwr2
  refine lv_if_ne (tgt := 17) hx hb dX8_exchangeAll_12 (by decide) (fun h_ => absurd (by decide +kernel) h_) (fun _ => ?_)
  refine lv_iload_n hx hb dX8_exchangeAll_15 rfl (lv_at hl 0 rfl) ?_
  exact r_i F hr hlk hP hD hS () [0, 1, 2, 3, 4] rfl rfl rfl dX8_exchangeAll_16 (Nat.le_of_ble_eq_true rfl) (Nat.le_of_ble_eq_true rfl)
set_option maxHeartbeats 4000000 in
set_option maxRecDepth 100000 in
theorem k_X8_dearestToShut (l : Launch) (G : Gx) (se : Nat) (a : Int32) (pl : Nat) (se_1 : Nat) (se_2 : Nat) (ho : Nat) (pl_1 : Nat) (pl_5 : Nat) (fl : Nat) (pe : Nat) (ru : Nat) (ho_4 : Nat) (ho_5 : Nat) (ho_6 : Nat) (ho_8 : Nat) (ho_9 : Nat) (ho_10 : Nat) (ho_11 : Nat) (ho_12 : Nat) (pe_1 : Nat) (pe_2 : Nat) (pe_3 : Nat) (pe_4 : Nat) (pe_5 : Nat) (pe_6 : Nat) (pe_7 : Nat) (pe_8 : Nat) (pe_9 : Nat) (pe_10 : Nat) (fl_3 : Nat) (fl_4 : Nat) (fl_5 : Nat) (fl_6 : Nat) (fl_7 : Nat)  : CtI (S := Unit) l yX8_dearestToShut cX8_dearestToShut 8 (some .int) (rmD 2 0 0) G [.ref se, .int a] [(se, .inr (8, [.ref pl, .ref se_1, .ref se_2])), (pl, .inr (4, [.ref ho, .ref pl_1, .int 0, .int (-1), .int (-1), .ref pl_5])), (ho, .inr (2, [.ref fl, .ref pe, .ref ru, .int 0, .ref ho_4, .ref ho_5, .ref ho_6, .int 0, .ref ho_8, .ref ho_9, .ref ho_10, .ref ho_11, .ref ho_12, .int 50])), (pe, .inr (3, [.int 0, .ref pe_1, .ref pe_2, .ref pe_3, .ref pe_4, .ref pe_5, .ref pe_6, .ref pe_7, .ref pe_8, .ref pe_9, .ref pe_10])), (fl, .inr (1, [.int 0, .int 0, .int 0, .ref fl_3, .ref fl_4, .ref fl_5, .ref fl_6, .ref fl_7]))] (fun r _ => r = (-1)) (fun _ => [(se, .inr (8, [.ref pl, .ref se_1, .ref se_2])), (pl, .inr (4, [.ref ho, .ref pl_1, .int 0, .int (-1), .int (-1), .ref pl_5])), (ho, .inr (2, [.ref fl, .ref pe, .ref ru, .int 0, .ref ho_4, .ref ho_5, .ref ho_6, .int 0, .ref ho_8, .ref ho_9, .ref ho_10, .ref ho_11, .ref ho_12, .int 50])), (pe, .inr (3, [.int 0, .ref pe_1, .ref pe_2, .ref pe_3, .ref pe_4, .ref pe_5, .ref pe_6, .ref pe_7, .ref pe_8, .ref pe_9, .ref pe_10])), (fl, .inr (1, [.int 0, .int 0, .int 0, .ref fl_3, .ref fl_4, .ref fl_5, .ref fl_6, .ref fl_7]))]) := by
  refine ctI_of (own := RX8) (by decide +kernel) rfl (Nat.le_of_ble_eq_true rfl) ?_
  intro p e s m below meth c A ls F hr hlk hnm hK hP hD hA hS hl
  have hx := F.1
  have hb := F.2.1
  have hown := F.2.2.2.1
  have hl : lv_has ls 8 [(0, .ref se), (1, .int a)] := hl
  refine lv_aload_n hx hb dX8_dearestToShut_0 rfl (lv_at hl 0 rfl) ?_
  refine g_get F hK hP 0 rfl clX8 0 (by decide) flX8_18 rfl dX8_dearestToShut_1 ?_
  refine g_get F hK hP 1 rfl clX4 0 (by decide) flX8_22 rfl dX8_dearestToShut_4 ?_
  refine lv_astore_n (lv' := [(2, .ref ho), (0, .ref se), (1, .int a)]) hx hb dX8_dearestToShut_7 rfl hl (by decide) rfl (fun ls hl => ?_)
  refine lv_aload_n hx hb dX8_dearestToShut_8 rfl (lv_at hl 0 rfl) ?_
  refine g_get F hK hP 2 rfl clX2 0 (by decide) flX8_28 rfl dX8_dearestToShut_9 ?_
  refine g_get F hK hP 4 rfl clX1 1 (by decide) flX8_99 rfl dX8_dearestToShut_12 ?_
  refine lv_aload_n hx hb dX8_dearestToShut_15 rfl (lv_at hl 0 rfl) ?_
  refine g_get F hK hP 2 rfl clX2 0 (by decide) flX8_28 rfl dX8_dearestToShut_16 ?_
  refine g_get F hK hP 4 rfl clX1 2 (by decide) flX8_102 rfl dX8_dearestToShut_19 ?_
  refine lv_isub hx hb dX8_dearestToShut_22 ?_
  refine cst_i (y := 0) (by decide +kernel) ?_
  refine lv_istore_n (lv' := [(3, .int 0), (2, .ref ho), (0, .ref se), (1, .int a)]) hx hb dX8_dearestToShut_23 rfl hl (by decide) rfl (fun ls hl => ?_)
  refine lv_aload_n hx hb dX8_dearestToShut_24 rfl (lv_at hl 2 rfl) ?_
  refine g_get F hK hP 0 rfl clX8 0 (by decide) flX8_18 rfl dX8_dearestToShut_25 ?_
  refine lv_iload_n hx hb dX8_dearestToShut_28 rfl (lv_at hl 3 rfl) ?_
  refine cvi (wr := [(se, .inr (8, [.ref pl, .ref se_1, .ref se_2])), (fl, .inr (1, [.int 0, .int 0, .int 0, .ref fl_3, .ref fl_4, .ref fl_5, .ref fl_6, .ref fl_7]))]) (As := [.int a]) (rest := []) (b := pl) (k1 := 0) (s1 := 0) F hK hP hD hS hA (k_X4_inWithoutOwn l G pl a ho pl_1 pl_5 fl pe ru ho_4 ho_5 ho_6 ho_8 ho_9 ho_10 ho_11 ho_12 pe_1 pe_2 pe_3 pe_4 pe_5 pe_6 pe_7 pe_8 pe_9 pe_10) kmV_X4_inWithoutOwn mlX8_105 clX4 rfl 0 rfl ⟨(Nat.le_of_ble_eq_true rfl), (Nat.le_of_ble_eq_true rfl)⟩ [1, 2, 3] [0, 4] rfl rfl rfl rfl (by decide) hl.1 rfl (Nat.le_of_ble_eq_true rfl) dX8_dearestToShut_29 ⟨(Nat.le_of_ble_eq_true rfl), (Nat.le_of_ble_eq_true rfl)⟩ rfl rfl (fun r2 u1 H locs hwr2 (hP : va_P G.1 vwCl [(se, .inr (8, [.ref pl, .ref se_1, .ref se_2])), (fl, .inr (1, [.int 0, .int 0, .int 0, .ref fl_3, .ref fl_4, .ref fl_5, .ref fl_6, .ref fl_7])), (pl, .inr (4, [.ref ho, .ref pl_1, .int 0, .int (-1), .int (-1), .ref pl_5])), (ho, .inr (2, [.ref fl, .ref pe, .ref ru, .int 0, .ref ho_4, .ref ho_5, .ref ho_6, .int 0, .ref ho_8, .ref ho_9, .ref ho_10, .ref ho_11, .ref ho_12, .int 50])), (pe, .inr (3, [.int 0, .ref pe_1, .ref pe_2, .ref pe_3, .ref pe_4, .ref pe_5, .ref pe_6, .ref pe_7, .ref pe_8, .ref pe_9, .ref pe_10]))] H) (hD : va_D A [(se, .inr (8, [.ref pl, .ref se_1, .ref se_2])), (fl, .inr (1, [.int 0, .int 0, .int 0, .ref fl_3, .ref fl_4, .ref fl_5, .ref fl_6, .ref fl_7])), (pl, .inr (4, [.ref ho, .ref pl_1, .int 0, .int (-1), .int (-1), .ref pl_5])), (ho, .inr (2, [.ref fl, .ref pe, .ref ru, .int 0, .ref ho_4, .ref ho_5, .ref ho_6, .int 0, .ref ho_8, .ref ho_9, .ref ho_10, .ref ho_11, .ref ho_12, .int 50])), (pe, .inr (3, [.int 0, .ref pe_1, .ref pe_2, .ref pe_3, .ref pe_4, .ref pe_5, .ref pe_6, .ref pe_7, .ref pe_8, .ref pe_9, .ref pe_10]))]) hS => ?_)
  subst hwr2
  refine lv_istore (lv' := [(4, .int 0), (3, .int 0), (2, .ref ho), (0, .ref se), (1, .int a)]) hx hb dX8_dearestToShut_32 hl (by decide) rfl (fun ls hl => ?_)
  refine lv_iconst (v := (-1)) hx hb dX8_dearestToShut_34 (by decide) ?_
  refine lv_istore (lv' := [(5, .int (-1)), (4, .int 0), (3, .int 0), (2, .ref ho), (0, .ref se), (1, .int a)]) hx hb dX8_dearestToShut_35 hl (by decide) rfl (fun ls hl => ?_)
  refine lv_iconst (v := 0) hx hb dX8_dearestToShut_37 (by decide) ?_
  refine lv_istore (lv' := [(6, .int 0), (5, .int (-1)), (4, .int 0), (3, .int 0), (2, .ref ho), (0, .ref se), (1, .int a)]) hx hb dX8_dearestToShut_38 hl (by decide) rfl (fun ls hl => ?_)
  refine lv_iload hx hb dX8_dearestToShut_40 (lv_at hl 0 rfl) ?_
  refine lv_aload_n hx hb dX8_dearestToShut_42 rfl (lv_at hl 4 rfl) ?_
  refine g_get F hK hP 3 rfl clX2 0 (by decide) flX8_28 rfl dX8_dearestToShut_43 ?_
  refine g_get F hK hP 1 rfl clX1 0 (by decide) flX8_34 rfl dX8_dearestToShut_46 ?_
  refine lv_icmp_ge (tgt := 133) hx hb dX8_dearestToShut_49 (by decide) (fun _ => ?_) (fun h_ => absurd (by decide +kernel) h_)
  refine lv_iload hx hb dX8_dearestToShut_133 (lv_at hl 1 rfl) ?_
  exact r_i F hr hlk hP hD hS () [0, 2, 3, 4, 1] rfl rfl rfl dX8_dearestToShut_135 (Nat.le_of_ble_eq_true rfl) (Nat.le_of_ble_eq_true rfl)
set_option maxHeartbeats 4000000 in
set_option maxRecDepth 100000 in
theorem k_X11_areSets (l : Launch) (G : Gx) (x : Nat) (a : Int32) (x_0 : Nat) (sp : Nat) (stm : Nat) (pl : Nat) (sk : Nat) (se : Nat) (ch : Nat) (x_11 : Nat) (x_13 : Nat) (ho : Nat) (pl_1 : Nat) (pl_5 : Nat) (fl : Nat) (pe : Nat) (ru : Nat) (ho_4 : Nat) (ho_5 : Nat) (ho_6 : Nat) (ho_8 : Nat) (ho_9 : Nat) (ho_10 : Nat) (ho_11 : Nat) (ho_12 : Nat) (pe_1 : Nat) (pe_2 : Nat) (pe_3 : Nat) (pe_4 : Nat) (pe_5 : Nat) (pe_6 : Nat) (pe_7 : Nat) (pe_8 : Nat) (pe_9 : Nat) (pe_10 : Nat)  : CtI (S := Unit) l yX11_areSets cX11_areSets 5 (some .boolean) (rmD 1 0 0) G [.ref x, .int a] [(x, .inr (11, [.ref x_0, .int 0, .ref sp, .ref stm, .ref pl, .ref sk, .ref se, .ref ch, .int 0, .int (-1), .long 1, .ref x_11, .int 0, .ref x_13])), (pl, .inr (4, [.ref ho, .ref pl_1, .int 0, .int (-1), .int (-1), .ref pl_5])), (ho, .inr (2, [.ref fl, .ref pe, .ref ru, .int 0, .ref ho_4, .ref ho_5, .ref ho_6, .int 0, .ref ho_8, .ref ho_9, .ref ho_10, .ref ho_11, .ref ho_12, .int 50])), (pe, .inr (3, [.int 0, .ref pe_1, .ref pe_2, .ref pe_3, .ref pe_4, .ref pe_5, .ref pe_6, .ref pe_7, .ref pe_8, .ref pe_9, .ref pe_10]))] (fun r _ => r = 1) (fun _ => [(x, .inr (11, [.ref x_0, .int 0, .ref sp, .ref stm, .ref pl, .ref sk, .ref se, .ref ch, .int 0, .int (-1), .long 1, .ref x_11, .int 0, .ref x_13])), (pl, .inr (4, [.ref ho, .ref pl_1, .int 0, .int (-1), .int (-1), .ref pl_5])), (ho, .inr (2, [.ref fl, .ref pe, .ref ru, .int 0, .ref ho_4, .ref ho_5, .ref ho_6, .int 0, .ref ho_8, .ref ho_9, .ref ho_10, .ref ho_11, .ref ho_12, .int 50])), (pe, .inr (3, [.int 0, .ref pe_1, .ref pe_2, .ref pe_3, .ref pe_4, .ref pe_5, .ref pe_6, .ref pe_7, .ref pe_8, .ref pe_9, .ref pe_10]))]) := by
  refine ctI_of (own := RX11) (by decide +kernel) rfl (Nat.le_of_ble_eq_true rfl) ?_
  intro p e s m below meth c A ls F hr hlk hnm hK hP hD hA hS hl
  have hx := F.1
  have hb := F.2.1
  have hown := F.2.2.2.1
  have hl : lv_has ls 5 [(0, .ref x), (1, .int a)] := hl
  refine lv_aload_n hx hb dX11_areSets_0 rfl (lv_at hl 0 rfl) ?_
  refine g_get F hK hP 0 rfl clX11 4 (by decide) flX11_43 rfl dX11_areSets_1 ?_
  refine g_get F hK hP 1 rfl clX4 0 (by decide) flX11_121 rfl dX11_areSets_4 ?_
  refine g_get F hK hP 2 rfl clX2 1 (by decide) flX11_139 rfl dX11_areSets_7 ?_
  refine g_get F hK hP 3 rfl clX3 0 (by decide) flX11_143 rfl dX11_areSets_10 ?_
  refine lv_istore_n (lv' := [(2, .int 0), (0, .ref x), (1, .int a)]) hx hb dX11_areSets_13 rfl hl (by decide) rfl (fun ls hl => ?_)
  refine lv_iconst (v := 0) hx hb dX11_areSets_14 (by decide) ?_
  refine lv_istore_n (lv' := [(3, .int 0), (2, .int 0), (0, .ref x), (1, .int a)]) hx hb dX11_areSets_15 rfl hl (by decide) rfl (fun ls hl => ?_)
  refine lv_iload_n hx hb dX11_areSets_16 rfl (lv_at hl 0 rfl) ?_
  refine lv_iload_n hx hb dX11_areSets_17 rfl (lv_at hl 1 rfl) ?_
  refine lv_icmp_ge (tgt := 55) hx hb dX11_areSets_18 (by decide) (fun _ => ?_) (fun h_ => absurd (by decide +kernel) h_)
  refine lv_iconst (v := 1) hx hb dX11_areSets_55 (by decide) ?_
  exact r_z F hr hlk hP hD hS () [0, 1, 2, 3] rfl rfl rfl dX11_areSets_56 (Nat.le_of_ble_eq_true rfl) (Nat.le_of_ble_eq_true rfl) (by decide)
set_option maxHeartbeats 4000000 in
set_option maxRecDepth 100000 in
theorem k_X11_takeSets (l : Launch) (G : Gx) (x : Nat) (a : Int32) (x_0 : Nat) (sp : Nat) (stm : Nat) (pl : Nat) (sk : Nat) (se : Nat) (ch : Nat) (x_11 : Nat) (x_13 : Nat) (ho : Nat) (pl_1 : Nat) (pl_5 : Nat) (fl : Nat) (pe : Nat) (ru : Nat) (ho_4 : Nat) (ho_5 : Nat) (ho_6 : Nat) (ho_8 : Nat) (ho_9 : Nat) (ho_10 : Nat) (ho_11 : Nat) (ho_12 : Nat) (pe_1 : Nat) (pe_2 : Nat) (pe_3 : Nat) (pe_4 : Nat) (pe_5 : Nat) (pe_6 : Nat) (pe_7 : Nat) (pe_8 : Nat) (pe_9 : Nat) (pe_10 : Nat)  : CtV (S := Unit) l yX11_takeSets cX11_takeSets 4 none (rmD 1 0 0) G [.ref x, .int a] [(x, .inr (11, [.ref x_0, .int 0, .ref sp, .ref stm, .ref pl, .ref sk, .ref se, .ref ch, .int 0, .int (-1), .long 1, .ref x_11, .int 0, .ref x_13])), (pl, .inr (4, [.ref ho, .ref pl_1, .int 0, .int (-1), .int (-1), .ref pl_5])), (ho, .inr (2, [.ref fl, .ref pe, .ref ru, .int 0, .ref ho_4, .ref ho_5, .ref ho_6, .int 0, .ref ho_8, .ref ho_9, .ref ho_10, .ref ho_11, .ref ho_12, .int 50])), (pe, .inr (3, [.int 0, .ref pe_1, .ref pe_2, .ref pe_3, .ref pe_4, .ref pe_5, .ref pe_6, .ref pe_7, .ref pe_8, .ref pe_9, .ref pe_10]))] (fun _ => True) (fun _ => [(x, .inr (11, [.ref x_0, .int 0, .ref sp, .ref stm, .ref pl, .ref sk, .ref se, .ref ch, .int 0, .int (-1), .long 1, .ref x_11, .int 0, .ref x_13])), (pl, .inr (4, [.ref ho, .ref pl_1, .int 0, .int (-1), .int (-1), .ref pl_5])), (ho, .inr (2, [.ref fl, .ref pe, .ref ru, .int 0, .ref ho_4, .ref ho_5, .ref ho_6, .int 0, .ref ho_8, .ref ho_9, .ref ho_10, .ref ho_11, .ref ho_12, .int 50])), (pe, .inr (3, [.int 0, .ref pe_1, .ref pe_2, .ref pe_3, .ref pe_4, .ref pe_5, .ref pe_6, .ref pe_7, .ref pe_8, .ref pe_9, .ref pe_10]))]) := by
  refine ctV_of (own := RX11) (by decide +kernel) rfl (Nat.le_of_ble_eq_true rfl) ?_
  intro p e s m below meth c A ls F hr hlk hnm hK hP hD hA hS hl
  have hx := F.1
  have hb := F.2.1
  have hown := F.2.2.2.1
  have hl : lv_has ls 4 [(0, .ref x), (1, .int a)] := hl
  refine lv_aload_n hx hb dX11_takeSets_0 rfl (lv_at hl 0 rfl) ?_
  refine g_get F hK hP 0 rfl clX11 4 (by decide) flX11_43 rfl dX11_takeSets_1 ?_
  refine g_get F hK hP 1 rfl clX4 0 (by decide) flX11_121 rfl dX11_takeSets_4 ?_
  refine g_get F hK hP 2 rfl clX2 1 (by decide) flX11_139 rfl dX11_takeSets_7 ?_
  refine g_get F hK hP 3 rfl clX3 0 (by decide) flX11_143 rfl dX11_takeSets_10 ?_
  refine lv_istore_n (lv' := [(2, .int 0), (0, .ref x), (1, .int a)]) hx hb dX11_takeSets_13 rfl hl (by decide) rfl (fun ls hl => ?_)
  refine lv_iconst (v := 0) hx hb dX11_takeSets_14 (by decide) ?_
  refine lv_istore_n (lv' := [(3, .int 0), (2, .int 0), (0, .ref x), (1, .int a)]) hx hb dX11_takeSets_15 rfl hl (by decide) rfl (fun ls hl => ?_)
  refine lv_iload_n hx hb dX11_takeSets_16 rfl (lv_at hl 0 rfl) ?_
  refine lv_iload_n hx hb dX11_takeSets_17 rfl (lv_at hl 1 rfl) ?_
  refine lv_icmp_ge (tgt := 55) hx hb dX11_takeSets_18 (by decide) (fun _ => ?_) (fun h_ => absurd (by decide +kernel) h_)
  exact r_v F hr hlk hP hD hS () [0, 1, 2, 3] rfl rfl trivial dX11_takeSets_55 (Nat.le_of_ble_eq_true rfl) (Nat.le_of_ble_eq_true rfl)
end
section
set_option maxRecDepth 100000 in
theorem inX7 : ∀ w ∈ u_ws RX7 TX7 8, w ∈ tb := fun w h => List.mem_filter.mpr ⟨(by decide +kernel : ∀ w ∈ u_ws RX7 TX7 8, w ∈ lw_tbl) w h, (by decide +kernel : ∀ w ∈ u_ws RX7 TX7 8, goodWord w = true) w h⟩
theorem clX7 : ClF 7 RX7 TX7 8 tyX7 := ⟨rfl, inX7, tyX7_ok, nmX7⟩
set_option maxRecDepth 100000 in
theorem inX9 : ∀ w ∈ u_ws RX9 TX9 5, w ∈ tb := fun w h => List.mem_filter.mpr ⟨(by decide +kernel : ∀ w ∈ u_ws RX9 TX9 5, w ∈ lw_tbl) w h, (by decide +kernel : ∀ w ∈ u_ws RX9 TX9 5, goodWord w = true) w h⟩
theorem clX9 : ClF 9 RX9 TX9 5 tyX9 := ⟨rfl, inX9, tyX9_ok, nmX9⟩
theorem flX11_70 : Cond.fieldLink RX11 70 (TX11 8).1 (TX11 8).2.1 (TX11 8).2.2.1 ∈ tb := tb_at 669 (by decide +kernel)
theorem flX11_73 : Cond.fieldLink RX11 73 (TX11 9).1 (TX11 9).2.1 (TX11 9).2.2.1 ∈ tb := tb_at 670 (by decide +kernel)
theorem flX11_129 : Cond.fieldLink RX11 129 (TX2 0).1 (TX2 0).2.1 (TX2 0).2.2.1 ∈ tb := tb_at 354 (by decide +kernel)
theorem flX11_133 : Cond.fieldLink RX11 133 (TX1 0).1 (TX1 0).2.1 (TX1 0).2.2.1 ∈ tb := tb_at 193 (by decide +kernel)
theorem flX11_136 : Cond.fieldLink RX11 136 (TX2 3).1 (TX2 3).2.1 (TX2 3).2.2.1 ∈ tb := tb_at 368 (by decide +kernel)
theorem flX11_146 : Cond.fieldLink RX11 146 (TX2 7).1 (TX2 7).2.1 (TX2 7).2.2.1 ∈ tb := tb_at 381 (by decide +kernel)
theorem flX11_149 : Cond.fieldLink RX11 149 (TX1 1).1 (TX1 1).2.1 (TX1 1).2.2.1 ∈ tb := tb_at 196 (by decide +kernel)
theorem flX11_152 : Cond.fieldLink RX11 152 (TX1 2).1 (TX1 2).2.1 (TX1 2).2.2.1 ∈ tb := tb_at 200 (by decide +kernel)
theorem flX11_155 : Cond.fieldLink RX11 155 (TX2 2).1 (TX2 2).2.1 (TX2 2).2.2.1 ∈ tb := tb_at 364 (by decide +kernel)
theorem flX11_159 : Cond.fieldLink RX11 159 (TX7 0).1 (TX7 0).2.1 (TX7 0).2.2.1 ∈ tb := tb_at 324 (by decide +kernel)
theorem flX11_162 : Cond.fieldLink RX11 162 (TX2 13).1 (TX2 13).2.1 (TX2 13).2.2.1 ∈ tb := tb_at 402 (by decide +kernel)
theorem mlX11_165 : Cond.methodLink RX11 165 yX2_meetingTeams ∈ tb := tb_at 1039 (by decide +kernel)
theorem kmV_X2_meetingTeams : KmV yX2_meetingTeams cX2_meetingTeams 3 (some .int) 0 := ⟨tb_at (w := Cond.code yX2_meetingTeams cX2_meetingTeams 3 (some .int)) 1042 (by decide +kernel), tb_at (w := Cond.initialized RX2) 149 (by decide +kernel), tb_at (w := Cond.instanceMethod yX2_meetingTeams) 1040 (by decide +kernel), tb_at (w := Cond.selects yX2_meetingTeams.cls yX2_meetingTeams yX2_meetingTeams) 1041 (by decide +kernel), ⟨by decide +kernel, by decide +kernel, by decide +kernel⟩⟩
theorem mlX11_89 : Cond.methodLink RX11 89 yX11_refuse ∈ tb := tb_at 708 (by decide +kernel)
theorem kmV_X11_refuse : KmV yX11_refuse cX11_refuse 2 (some .int) 1 := ⟨tb_at (w := Cond.code yX11_refuse cX11_refuse 2 (some .int)) 711 (by decide +kernel), tb_at (w := Cond.initialized RX11) 148 (by decide +kernel), tb_at (w := Cond.instanceMethod yX11_refuse) 710 (by decide +kernel), tb_at (w := Cond.selects yX11_refuse.cls yX11_refuse yX11_refuse) 1 (by decide +kernel), ⟨by decide +kernel, by decide +kernel, by decide +kernel⟩⟩
theorem flX11_13 : Cond.fieldLink RX11 13 (TX11 1).1 (TX11 1).2.1 (TX11 1).2.2.1 ∈ tb := tb_at 662 (by decide +kernel)
theorem mlX11_224 : Cond.methodLink RX11 224 yX11_areSets ∈ tb := tb_at 1070 (by decide +kernel)
theorem kmV_X11_areSets : KmV yX11_areSets cX11_areSets 5 (some .boolean) 1 := ⟨tb_at (w := Cond.code yX11_areSets cX11_areSets 5 (some .boolean)) 1073 (by decide +kernel), tb_at (w := Cond.initialized RX11) 148 (by decide +kernel), tb_at (w := Cond.instanceMethod yX11_areSets) 1072 (by decide +kernel), tb_at (w := Cond.selects yX11_areSets.cls yX11_areSets yX11_areSets) 38 (by decide +kernel), ⟨by decide +kernel, by decide +kernel, by decide +kernel⟩⟩
theorem mlX11_227 : Cond.methodLink RX11 227 yX11_takeSets ∈ tb := tb_at 1074 (by decide +kernel)
theorem kmV_X11_takeSets : KmV yX11_takeSets cX11_takeSets 4 none 1 := ⟨tb_at (w := Cond.code yX11_takeSets cX11_takeSets 4 none) 1077 (by decide +kernel), tb_at (w := Cond.initialized RX11) 148 (by decide +kernel), tb_at (w := Cond.instanceMethod yX11_takeSets) 1076 (by decide +kernel), tb_at (w := Cond.selects yX11_takeSets.cls yX11_takeSets yX11_takeSets) 39 (by decide +kernel), ⟨by decide +kernel, by decide +kernel, by decide +kernel⟩⟩
theorem mlX11_230 : Cond.methodLink RX11 230 yX11_isDay ∈ tb := tb_at 1082 (by decide +kernel)
theorem kmS_X11_isDay : KmS yX11_isDay cX11_isDay 1 (some .boolean) 1 := ⟨tb_at (w := Cond.code yX11_isDay cX11_isDay 1 (some .boolean)) 889 (by decide +kernel), tb_at (w := Cond.initialized RX11) 148 (by decide +kernel), tb_at (w := Cond.static yX11_isDay) 888 (by decide +kernel), ⟨by decide +kernel, by decide +kernel, by decide +kernel⟩⟩
theorem mlX11_233 : Cond.methodLink RX11 233 yX4_inCount ∈ tb := tb_at 1083 (by decide +kernel)
theorem mlX11_236 : Cond.methodLink RX11 236 yX4_standing ∈ tb := tb_at 1087 (by decide +kernel)
theorem flX11_239 : Cond.fieldLink RX11 239 (TX2 11).1 (TX2 11).2.1 (TX2 11).2.2.1 ∈ tb := tb_at 396 (by decide +kernel)
theorem mlX11_245 : Cond.methodLink RX11 245 yX4_examine ∈ tb := tb_at 1109 (by decide +kernel)
theorem flX11_248 : Cond.fieldLink RX11 248 (TX4 2).1 (TX4 2).2.1 (TX4 2).2.2.1 ∈ tb := tb_at 588 (by decide +kernel)
theorem flX11_251 : Cond.fieldLink RX11 251 (TX4 3).1 (TX4 3).2.1 (TX4 3).2.2.1 ∈ tb := tb_at 590 (by decide +kernel)
theorem flX11_254 : Cond.fieldLink RX11 254 (TX4 4).1 (TX4 4).2.1 (TX4 4).2.2.1 ∈ tb := tb_at 592 (by decide +kernel)
theorem mlX11_257 : Cond.methodLink RX11 257 yX4_total ∈ tb := tb_at 1138 (by decide +kernel)
theorem kmV_X4_total : KmV yX4_total cX4_total 5 (some .int) 0 := ⟨tb_at (w := Cond.code yX4_total cX4_total 5 (some .int)) 1141 (by decide +kernel), tb_at (w := Cond.initialized RX4) 160 (by decide +kernel), tb_at (w := Cond.instanceMethod yX4_total) 1139 (by decide +kernel), tb_at (w := Cond.selects yX4_total.cls yX4_total yX4_total) 1140 (by decide +kernel), ⟨by decide +kernel, by decide +kernel, by decide +kernel⟩⟩
theorem flX11_52 : Cond.fieldLink RX11 52 (TX11 5).1 (TX11 5).2.1 (TX11 5).2.2.1 ∈ tb := tb_at 666 (by decide +kernel)
theorem flX11_266 : Cond.fieldLink RX11 266 (TX9 1).1 (TX9 1).2.1 (TX9 1).2.2.1 ∈ tb := tb_at 615 (by decide +kernel)
theorem mlX11_278 : Cond.methodLink RX11 278 yX11_areTwo ∈ tb := tb_at 1245 (by decide +kernel)
theorem kmV_X11_areTwo : KmV yX11_areTwo cX11_areTwo 3 (some .boolean) 2 := ⟨tb_at (w := Cond.code yX11_areTwo cX11_areTwo 3 (some .boolean)) 1248 (by decide +kernel), tb_at (w := Cond.initialized RX11) 148 (by decide +kernel), tb_at (w := Cond.instanceMethod yX11_areTwo) 1247 (by decide +kernel), tb_at (w := Cond.selects yX11_areTwo.cls yX11_areTwo yX11_areTwo) 49 (by decide +kernel), ⟨by decide +kernel, by decide +kernel, by decide +kernel⟩⟩
theorem cnX11_281 : Cond.constant RX11 281 (-1000000000) ∈ tb := tb_at 1249 (by decide +kernel)
theorem mlX11_288 : Cond.methodLink RX11 288 yX4_greatestUnmet ∈ tb := tb_at 1270 (by decide +kernel)
theorem kmV_X4_greatestUnmet : KmV yX4_greatestUnmet cX4_greatestUnmet 3 (some .int) 0 := ⟨tb_at (w := Cond.code yX4_greatestUnmet cX4_greatestUnmet 3 (some .int)) 1273 (by decide +kernel), tb_at (w := Cond.initialized RX4) 160 (by decide +kernel), tb_at (w := Cond.instanceMethod yX4_greatestUnmet) 1271 (by decide +kernel), tb_at (w := Cond.selects yX4_greatestUnmet.cls yX4_greatestUnmet yX4_greatestUnmet) 1272 (by decide +kernel), ⟨by decide +kernel, by decide +kernel, by decide +kernel⟩⟩
theorem mlX11_291 : Cond.methodLink RX11 291 yX4_unmetTies ∈ tb := tb_at 1274 (by decide +kernel)
theorem kmV_X4_unmetTies : KmV yX4_unmetTies cX4_unmetTies 3 (some .int) 0 := ⟨tb_at (w := Cond.code yX4_unmetTies cX4_unmetTies 3 (some .int)) 1277 (by decide +kernel), tb_at (w := Cond.initialized RX4) 160 (by decide +kernel), tb_at (w := Cond.instanceMethod yX4_unmetTies) 1275 (by decide +kernel), tb_at (w := Cond.selects yX4_unmetTies.cls yX4_unmetTies yX4_unmetTies) 1276 (by decide +kernel), ⟨by decide +kernel, by decide +kernel, by decide +kernel⟩⟩
theorem mlX11_294 : Cond.methodLink RX11 294 yX4_lonelyPersons ∈ tb := tb_at 1278 (by decide +kernel)
theorem kmV_X4_lonelyPersons : KmV yX4_lonelyPersons cX4_lonelyPersons 3 (some .int) 0 := ⟨tb_at (w := Cond.code yX4_lonelyPersons cX4_lonelyPersons 3 (some .int)) 1281 (by decide +kernel), tb_at (w := Cond.initialized RX4) 160 (by decide +kernel), tb_at (w := Cond.instanceMethod yX4_lonelyPersons) 1279 (by decide +kernel), tb_at (w := Cond.selects yX4_lonelyPersons.cls yX4_lonelyPersons yX4_lonelyPersons) 1280 (by decide +kernel), ⟨by decide +kernel, by decide +kernel, by decide +kernel⟩⟩
theorem mlX11_297 : Cond.methodLink RX11 297 yX2_tieBound ∈ tb := tb_at 1290 (by decide +kernel)
theorem kmV_X2_tieBound : KmV yX2_tieBound cX2_tieBound 7 (some .int) 0 := ⟨tb_at (w := Cond.code yX2_tieBound cX2_tieBound 7 (some .int)) 1293 (by decide +kernel), tb_at (w := Cond.initialized RX2) 149 (by decide +kernel), tb_at (w := Cond.instanceMethod yX2_tieBound) 1291 (by decide +kernel), tb_at (w := Cond.selects yX2_tieBound.cls yX2_tieBound yX2_tieBound) 1292 (by decide +kernel), ⟨by decide +kernel, by decide +kernel, by decide +kernel⟩⟩
theorem mlX11_300 : Cond.methodLink RX11 300 yX4_tieWorth ∈ tb := tb_at 1296 (by decide +kernel)
theorem flX11_59 : Cond.fieldLink RX11 59 (TX11 6).1 (TX11 6).2.1 (TX11 6).2.2.1 ∈ tb := tb_at 667 (by decide +kernel)
theorem mlX11_361 : Cond.methodLink RX11 361 yX8_dearestToShut ∈ tb := tb_at 1441 (by decide +kernel)
theorem kmV_X8_dearestToShut : KmV yX8_dearestToShut cX8_dearestToShut 8 (some .int) 1 := ⟨tb_at (w := Cond.code yX8_dearestToShut cX8_dearestToShut 8 (some .int)) 1444 (by decide +kernel), tb_at (w := Cond.initialized RX8) 163 (by decide +kernel), tb_at (w := Cond.instanceMethod yX8_dearestToShut) 1442 (by decide +kernel), tb_at (w := Cond.selects yX8_dearestToShut.cls yX8_dearestToShut yX8_dearestToShut) 1443 (by decide +kernel), ⟨by decide +kernel, by decide +kernel, by decide +kernel⟩⟩
theorem flX11_83 : Cond.fieldLink RX11 83 (TX11 12).1 (TX11 12).2.1 (TX11 12).2.2.1 ∈ tb := tb_at 673 (by decide +kernel)
theorem flX11_76 : Cond.fieldLink RX11 76 (TX11 10).1 (TX11 10).2.1 (TX11 10).2.2.1 ∈ tb := tb_at 671 (by decide +kernel)
theorem mlX11_364 : Cond.methodLink RX11 364 yX4_unmetWithin ∈ tb := tb_at 1454 (by decide +kernel)
theorem kmV_X4_unmetWithin : KmV yX4_unmetWithin cX4_unmetWithin 6 (some .int) 1 := ⟨tb_at (w := Cond.code yX4_unmetWithin cX4_unmetWithin 6 (some .int)) 1457 (by decide +kernel), tb_at (w := Cond.initialized RX4) 160 (by decide +kernel), tb_at (w := Cond.instanceMethod yX4_unmetWithin) 1455 (by decide +kernel), tb_at (w := Cond.selects yX4_unmetWithin.cls yX4_unmetWithin yX4_unmetWithin) 1456 (by decide +kernel), ⟨by decide +kernel, by decide +kernel, by decide +kernel⟩⟩
theorem mlX11_350 : Cond.methodLink RX11 350 yX8_settle ∈ tb := tb_at 1399 (by decide +kernel)
theorem kmV_X8_settle : KmV yX8_settle cX8_settle 4 none 1 := ⟨tb_at (w := Cond.code yX8_settle cX8_settle 4 none) 1402 (by decide +kernel), tb_at (w := Cond.initialized RX8) 163 (by decide +kernel), tb_at (w := Cond.instanceMethod yX8_settle) 1400 (by decide +kernel), tb_at (w := Cond.selects yX8_settle.cls yX8_settle yX8_settle) 1401 (by decide +kernel), ⟨by decide +kernel, by decide +kernel, by decide +kernel⟩⟩
theorem mlX11_353 : Cond.methodLink RX11 353 yX8_exchangeAll ∈ tb := tb_at 1412 (by decide +kernel)
theorem kmV_X8_exchangeAll : KmV yX8_exchangeAll cX8_exchangeAll 2 (some .int) 0 := ⟨tb_at (w := Cond.code yX8_exchangeAll cX8_exchangeAll 2 (some .int)) 1415 (by decide +kernel), tb_at (w := Cond.initialized RX8) 163 (by decide +kernel), tb_at (w := Cond.instanceMethod yX8_exchangeAll) 1413 (by decide +kernel), tb_at (w := Cond.selects yX8_exchangeAll.cls yX8_exchangeAll yX8_exchangeAll) 1414 (by decide +kernel), ⟨by decide +kernel, by decide +kernel, by decide +kernel⟩⟩
theorem mlX11_358 : Cond.methodLink RX11 358 yX8_fitNow ∈ tb := tb_at 1436 (by decide +kernel)
theorem dX11_fault_0 : decode cX11_fault 0 = .ok (.iload_n 1, 1) := by decide +kernel
theorem dX11_fault_1 : decode cX11_fault 1 = .ok (.lookupswitch 37 #[(0, 27), (1, 32)], 27) := by decide +kernel
theorem dX11_fault_28 : decode cX11_fault 28 = .ok (.aload_n 0, 1) := by decide +kernel
theorem dX11_fault_29 : decode cX11_fault 29 = .ok (.getfield 70, 3) := by decide +kernel
theorem dX11_fault_32 : decode cX11_fault 32 = .ok (.ireturn, 1) := by decide +kernel
theorem dX11_fault_33 : decode cX11_fault 33 = .ok (.aload_n 0, 1) := by decide +kernel
theorem dX11_fault_34 : decode cX11_fault 34 = .ok (.getfield 73, 3) := by decide +kernel
theorem dX11_fault_37 : decode cX11_fault 37 = .ok (.ireturn, 1) := by decide +kernel
theorem dX11_fault_38 : decode cX11_fault 38 = .ok (.iconst (-1), 1) := by decide +kernel
theorem dX11_fault_39 : decode cX11_fault 39 = .ok (.ireturn, 1) := by decide +kernel
theorem dX11_has_0 : decode cX11_has 0 = .ok (.aload_n 0, 1) := by decide +kernel
theorem dX11_has_1 : decode cX11_has 1 = .ok (.getfield 43, 3) := by decide +kernel
theorem dX11_has_101 : decode cX11_has 101 = .ok (.ireturn, 1) := by decide +kernel
theorem dX11_has_102 : decode cX11_has 102 = .ok (.aload_n 2, 1) := by decide +kernel
theorem dX11_has_103 : decode cX11_has 103 = .ok (.getfield 155, 3) := by decide +kernel
theorem dX11_has_106 : decode cX11_has 106 = .ok (.getfield 159, 3) := by decide +kernel
theorem dX11_has_109 : decode cX11_has 109 = .ok (.ireturn, 1) := by decide +kernel
theorem dX11_has_110 : decode cX11_has 110 = .ok (.aload_n 2, 1) := by decide +kernel
theorem dX11_has_111 : decode cX11_has 111 = .ok (.getfield 162, 3) := by decide +kernel
theorem dX11_has_114 : decode cX11_has 114 = .ok (.ireturn, 1) := by decide +kernel
theorem dX11_has_115 : decode cX11_has 115 = .ok (.aload_n 2, 1) := by decide +kernel
theorem dX11_has_116 : decode cX11_has 116 = .ok (.invokevirtual 165, 3) := by decide +kernel
theorem dX11_has_119 : decode cX11_has 119 = .ok (.ireturn, 1) := by decide +kernel
theorem dX11_has_120 : decode cX11_has 120 = .ok (.iconst (-1), 1) := by decide +kernel
theorem dX11_has_121 : decode cX11_has 121 = .ok (.ireturn, 1) := by decide +kernel
theorem dX11_has_4 : decode cX11_has 4 = .ok (.getfield 121, 3) := by decide +kernel
theorem dX11_has_60 : decode cX11_has 60 = .ok (.aload_n 2, 1) := by decide +kernel
theorem dX11_has_61 : decode cX11_has 61 = .ok (.getfield 129, 3) := by decide +kernel
theorem dX11_has_64 : decode cX11_has 64 = .ok (.getfield 133, 3) := by decide +kernel
theorem dX11_has_67 : decode cX11_has 67 = .ok (.ireturn, 1) := by decide +kernel
theorem dX11_has_68 : decode cX11_has 68 = .ok (.aload_n 2, 1) := by decide +kernel
theorem dX11_has_69 : decode cX11_has 69 = .ok (.getfield 136, 3) := by decide +kernel
theorem dX11_has_7 : decode cX11_has 7 = .ok (.astore_n 2, 1) := by decide +kernel
theorem dX11_has_72 : decode cX11_has 72 = .ok (.ireturn, 1) := by decide +kernel
theorem dX11_has_73 : decode cX11_has 73 = .ok (.aload_n 2, 1) := by decide +kernel
theorem dX11_has_74 : decode cX11_has 74 = .ok (.getfield 139, 3) := by decide +kernel
theorem dX11_has_77 : decode cX11_has 77 = .ok (.getfield 143, 3) := by decide +kernel
theorem dX11_has_8 : decode cX11_has 8 = .ok (.iload_n 1, 1) := by decide +kernel
theorem dX11_has_80 : decode cX11_has 80 = .ok (.ireturn, 1) := by decide +kernel
theorem dX11_has_81 : decode cX11_has 81 = .ok (.aload_n 2, 1) := by decide +kernel
theorem dX11_has_82 : decode cX11_has 82 = .ok (.getfield 146, 3) := by decide +kernel
theorem dX11_has_85 : decode cX11_has 85 = .ok (.ireturn, 1) := by decide +kernel
theorem dX11_has_86 : decode cX11_has 86 = .ok (.aload_n 2, 1) := by decide +kernel
theorem dX11_has_87 : decode cX11_has 87 = .ok (.getfield 129, 3) := by decide +kernel
theorem dX11_has_9 : decode cX11_has 9 = .ok (.tableswitch 111 0 8 #[51, 59, 64, 72, 77, 85, 93, 101, 106], 51) := by decide +kernel
theorem dX11_has_90 : decode cX11_has 90 = .ok (.getfield 149, 3) := by decide +kernel
theorem dX11_has_93 : decode cX11_has 93 = .ok (.ireturn, 1) := by decide +kernel
theorem dX11_has_94 : decode cX11_has 94 = .ok (.aload_n 2, 1) := by decide +kernel
theorem dX11_has_95 : decode cX11_has 95 = .ok (.getfield 129, 3) := by decide +kernel
theorem dX11_has_98 : decode cX11_has 98 = .ok (.getfield 152, 3) := by decide +kernel
theorem dX11_letter_0 : decode cX11_letter 0 = .ok (.aload_n 0, 1) := by decide +kernel
theorem dX11_letter_1 : decode cX11_letter 1 = .ok (.getfield 43, 3) := by decide +kernel
theorem dX11_letter_10 : decode cX11_letter 10 = .ok (.tableswitch 122 0 2 #[26, 60, 88], 26) := by decide +kernel
theorem dX11_letter_101 : decode cX11_letter 101 = .ok (.getfield 139, 3) := by decide +kernel
theorem dX11_letter_104 : decode cX11_letter 104 = .ok (.getfield 143, 3) := by decide +kernel
theorem dX11_letter_107 : decode cX11_letter 107 = .ok (.invokestatic 169, 3) := by decide +kernel
theorem dX11_letter_110 : decode cX11_letter 110 = .ok (.ifCond .eq 20, 3) := by decide +kernel
theorem dX11_letter_130 : decode cX11_letter 130 = .ok (.iconst (-1), 1) := by decide +kernel
theorem dX11_letter_131 : decode cX11_letter 131 = .ok (.ireturn, 1) := by decide +kernel
theorem dX11_letter_132 : decode cX11_letter 132 = .ok (.iconst (-1), 1) := by decide +kernel
theorem dX11_letter_133 : decode cX11_letter 133 = .ok (.ireturn, 1) := by decide +kernel
theorem dX11_letter_36 : decode cX11_letter 36 = .ok (.iload_n 2, 1) := by decide +kernel
theorem dX11_letter_37 : decode cX11_letter 37 = .ok (.aload 4, 2) := by decide +kernel
theorem dX11_letter_39 : decode cX11_letter 39 = .ok (.getfield 129, 3) := by decide +kernel
theorem dX11_letter_4 : decode cX11_letter 4 = .ok (.getfield 121, 3) := by decide +kernel
theorem dX11_letter_42 : decode cX11_letter 42 = .ok (.getfield 133, 3) := by decide +kernel
theorem dX11_letter_45 : decode cX11_letter 45 = .ok (.invokestatic 169, 3) := by decide +kernel
theorem dX11_letter_48 : decode cX11_letter 48 = .ok (.ifCond .eq 20, 3) := by decide +kernel
theorem dX11_letter_68 : decode cX11_letter 68 = .ok (.iconst (-1), 1) := by decide +kernel
theorem dX11_letter_69 : decode cX11_letter 69 = .ok (.ireturn, 1) := by decide +kernel
theorem dX11_letter_7 : decode cX11_letter 7 = .ok (.astore 4, 2) := by decide +kernel
theorem dX11_letter_70 : decode cX11_letter 70 = .ok (.iload_n 2, 1) := by decide +kernel
theorem dX11_letter_71 : decode cX11_letter 71 = .ok (.aload 4, 2) := by decide +kernel
theorem dX11_letter_73 : decode cX11_letter 73 = .ok (.getfield 136, 3) := by decide +kernel
theorem dX11_letter_76 : decode cX11_letter 76 = .ok (.invokestatic 169, 3) := by decide +kernel
theorem dX11_letter_79 : decode cX11_letter 79 = .ok (.ifCond .eq 17, 3) := by decide +kernel
theorem dX11_letter_9 : decode cX11_letter 9 = .ok (.iload_n 1, 1) := by decide +kernel
theorem dX11_letter_96 : decode cX11_letter 96 = .ok (.iconst (-1), 1) := by decide +kernel
theorem dX11_letter_97 : decode cX11_letter 97 = .ok (.ireturn, 1) := by decide +kernel
theorem dX11_letter_98 : decode cX11_letter 98 = .ok (.iload_n 2, 1) := by decide +kernel
theorem dX11_letter_99 : decode cX11_letter 99 = .ok (.aload 4, 2) := by decide +kernel
theorem dX11_person_0 : decode cX11_person 0 = .ok (.aload_n 0, 1) := by decide +kernel
theorem dX11_person_1 : decode cX11_person 1 = .ok (.getfield 43, 3) := by decide +kernel
theorem dX11_person_10 : decode cX11_person 10 = .ok (.astore_n 3, 1) := by decide +kernel
theorem dX11_person_11 : decode cX11_person 11 = .ok (.aload_n 0, 1) := by decide +kernel
theorem dX11_person_12 : decode cX11_person 12 = .ok (.iload_n 1, 1) := by decide +kernel
theorem dX11_person_13 : decode cX11_person 13 = .ok (.invokevirtual 184, 3) := by decide +kernel
theorem dX11_person_16 : decode cX11_person 16 = .ok (.ifCond .ne 5, 3) := by decide +kernel
theorem dX11_person_19 : decode cX11_person 19 = .ok (.iconst (-1), 1) := by decide +kernel
theorem dX11_person_20 : decode cX11_person 20 = .ok (.ireturn, 1) := by decide +kernel
theorem dX11_person_4 : decode cX11_person 4 = .ok (.getfield 121, 3) := by decide +kernel
theorem dX11_person_7 : decode cX11_person 7 = .ok (.getfield 139, 3) := by decide +kernel
theorem dX11_floor_0 : decode cX11_floor 0 = .ok (.aload_n 0, 1) := by decide +kernel
theorem dX11_floor_1 : decode cX11_floor 1 = .ok (.getfield 43, 3) := by decide +kernel
theorem dX11_floor_10 : decode cX11_floor 10 = .ok (.astore_n 3, 1) := by decide +kernel
theorem dX11_floor_11 : decode cX11_floor 11 = .ok (.iload_n 1, 1) := by decide +kernel
theorem dX11_floor_12 : decode cX11_floor 12 = .ok (.aload_n 3, 1) := by decide +kernel
theorem dX11_floor_13 : decode cX11_floor 13 = .ok (.getfield 133, 3) := by decide +kernel
theorem dX11_floor_16 : decode cX11_floor 16 = .ok (.invokestatic 169, 3) := by decide +kernel
theorem dX11_floor_19 : decode cX11_floor 19 = .ok (.ifCond .ne 5, 3) := by decide +kernel
theorem dX11_floor_22 : decode cX11_floor 22 = .ok (.iconst (-1), 1) := by decide +kernel
theorem dX11_floor_23 : decode cX11_floor 23 = .ok (.ireturn, 1) := by decide +kernel
theorem dX11_floor_4 : decode cX11_floor 4 = .ok (.getfield 121, 3) := by decide +kernel
theorem dX11_floor_7 : decode cX11_floor 7 = .ok (.getfield 129, 3) := by decide +kernel
theorem dX11_put_0 : decode cX11_put 0 = .ok (.aload_n 0, 1) := by decide +kernel
theorem dX11_put_1 : decode cX11_put 1 = .ok (.iload_n 1, 1) := by decide +kernel
theorem dX11_put_18 : decode cX11_put 18 = .ok (.aload_n 0, 1) := by decide +kernel
theorem dX11_put_19 : decode cX11_put 19 = .ok (.iconst 2, 1) := by decide +kernel
theorem dX11_put_2 : decode cX11_put 2 = .ok (.invokevirtual 184, 3) := by decide +kernel
theorem dX11_put_20 : decode cX11_put 20 = .ok (.invokevirtual 89, 3) := by decide +kernel
theorem dX11_put_23 : decode cX11_put 23 = .ok (.pop, 1) := by decide +kernel
theorem dX11_put_24 : decode cX11_put 24 = .ok (.iconst 0, 1) := by decide +kernel
theorem dX11_put_25 : decode cX11_put 25 = .ok (.ireturn, 1) := by decide +kernel
theorem dX11_put_5 : decode cX11_put 5 = .ok (.ifCond .eq 13, 3) := by decide +kernel
theorem dX11_row_0 : decode cX11_row 0 = .ok (.aload_n 0, 1) := by decide +kernel
theorem dX11_row_1 : decode cX11_row 1 = .ok (.getfield 43, 3) := by decide +kernel
theorem dX11_row_10 : decode cX11_row 10 = .ok (.getfield 143, 3) := by decide +kernel
theorem dX11_row_13 : decode cX11_row 13 = .ok (.istore_n 1, 1) := by decide +kernel
theorem dX11_row_14 : decode cX11_row 14 = .ok (.aload_n 0, 1) := by decide +kernel
theorem dX11_row_15 : decode cX11_row 15 = .ok (.getfield 13, 3) := by decide +kernel
theorem dX11_row_18 : decode cX11_row 18 = .ok (.iload_n 1, 1) := by decide +kernel
theorem dX11_row_19 : decode cX11_row 19 = .ok (.if_icmp .ne 11, 3) := by decide +kernel
theorem dX11_row_22 : decode cX11_row 22 = .ok (.aload_n 0, 1) := by decide +kernel
theorem dX11_row_23 : decode cX11_row 23 = .ok (.iconst 0, 1) := by decide +kernel
theorem dX11_row_24 : decode cX11_row 24 = .ok (.invokevirtual 224, 3) := by decide +kernel
theorem dX11_row_27 : decode cX11_row 27 = .ok (.ifCond .ne 11, 3) := by decide +kernel
theorem dX11_row_38 : decode cX11_row 38 = .ok (.aload_n 0, 1) := by decide +kernel
theorem dX11_row_39 : decode cX11_row 39 = .ok (.iconst 0, 1) := by decide +kernel
theorem dX11_row_4 : decode cX11_row 4 = .ok (.getfield 121, 3) := by decide +kernel
theorem dX11_row_40 : decode cX11_row 40 = .ok (.invokevirtual 227, 3) := by decide +kernel
theorem dX11_row_43 : decode cX11_row 43 = .ok (.aload_n 0, 1) := by decide +kernel
theorem dX11_row_44 : decode cX11_row 44 = .ok (.iconst 0, 1) := by decide +kernel
theorem dX11_row_45 : decode cX11_row 45 = .ok (.putfield 13, 3) := by decide +kernel
theorem dX11_row_48 : decode cX11_row 48 = .ok (.iconst 1, 1) := by decide +kernel
theorem dX11_row_49 : decode cX11_row 49 = .ok (.ireturn, 1) := by decide +kernel
theorem dX11_row_7 : decode cX11_row 7 = .ok (.getfield 139, 3) := by decide +kernel
theorem dX11_day_0 : decode cX11_day 0 = .ok (.iload_n 1, 1) := by decide +kernel
theorem dX11_day_1 : decode cX11_day 1 = .ok (.invokestatic 230, 3) := by decide +kernel
theorem dX11_day_10 : decode cX11_day 10 = .ok (.tableswitch 57 0 2 #[26, 35, 44], 26) := by decide +kernel
theorem dX11_day_36 : decode cX11_day 36 = .ok (.aload_n 0, 1) := by decide +kernel
theorem dX11_day_37 : decode cX11_day 37 = .ok (.getfield 43, 3) := by decide +kernel
theorem dX11_day_4 : decode cX11_day 4 = .ok (.ifCond .ne 5, 3) := by decide +kernel
theorem dX11_day_40 : decode cX11_day 40 = .ok (.iload_n 1, 1) := by decide +kernel
theorem dX11_day_41 : decode cX11_day 41 = .ok (.invokevirtual 233, 3) := by decide +kernel
theorem dX11_day_44 : decode cX11_day 44 = .ok (.ireturn, 1) := by decide +kernel
theorem dX11_day_45 : decode cX11_day 45 = .ok (.aload_n 0, 1) := by decide +kernel
theorem dX11_day_46 : decode cX11_day 46 = .ok (.getfield 43, 3) := by decide +kernel
theorem dX11_day_49 : decode cX11_day 49 = .ok (.iload_n 1, 1) := by decide +kernel
theorem dX11_day_50 : decode cX11_day 50 = .ok (.invokevirtual 236, 3) := by decide +kernel
theorem dX11_day_53 : decode cX11_day 53 = .ok (.ireturn, 1) := by decide +kernel
theorem dX11_day_54 : decode cX11_day 54 = .ok (.aload_n 0, 1) := by decide +kernel
theorem dX11_day_55 : decode cX11_day 55 = .ok (.getfield 43, 3) := by decide +kernel
theorem dX11_day_58 : decode cX11_day 58 = .ok (.getfield 121, 3) := by decide +kernel
theorem dX11_day_61 : decode cX11_day 61 = .ok (.getfield 239, 3) := by decide +kernel
theorem dX11_day_64 : decode cX11_day 64 = .ok (.iload_n 1, 1) := by decide +kernel
theorem dX11_day_65 : decode cX11_day 65 = .ok (.iaload, 1) := by decide +kernel
theorem dX11_day_66 : decode cX11_day 66 = .ok (.ireturn, 1) := by decide +kernel
theorem dX11_day_67 : decode cX11_day 67 = .ok (.iconst (-1), 1) := by decide +kernel
theorem dX11_day_68 : decode cX11_day 68 = .ok (.ireturn, 1) := by decide +kernel
theorem dX11_day_7 : decode cX11_day 7 = .ok (.iconst (-1), 1) := by decide +kernel
theorem dX11_day_8 : decode cX11_day 8 = .ok (.ireturn, 1) := by decide +kernel
theorem dX11_day_9 : decode cX11_day 9 = .ok (.iload_n 2, 1) := by decide +kernel
theorem dX11_met_0 : decode cX11_met 0 = .ok (.iload_n 1, 1) := by decide +kernel
theorem dX11_met_1 : decode cX11_met 1 = .ok (.aload_n 0, 1) := by decide +kernel
theorem dX11_met_11 : decode cX11_met 11 = .ok (.invokestatic 169, 3) := by decide +kernel
theorem dX11_met_14 : decode cX11_met 14 = .ok (.ifCond .eq 14, 3) := by decide +kernel
theorem dX11_met_2 : decode cX11_met 2 = .ok (.getfield 43, 3) := by decide +kernel
theorem dX11_met_28 : decode cX11_met 28 = .ok (.iconst (-1), 1) := by decide +kernel
theorem dX11_met_29 : decode cX11_met 29 = .ok (.ireturn, 1) := by decide +kernel
theorem dX11_met_5 : decode cX11_met 5 = .ok (.getfield 121, 3) := by decide +kernel
theorem dX11_met_8 : decode cX11_met 8 = .ok (.getfield 146, 3) := by decide +kernel
theorem dX11_judge_0 : decode cX11_judge 0 = .ok (.aload_n 0, 1) := by decide +kernel
theorem dX11_judge_1 : decode cX11_judge 1 = .ok (.getfield 43, 3) := by decide +kernel
theorem dX11_judge_36 : decode cX11_judge 36 = .ok (.aload_n 0, 1) := by decide +kernel
theorem dX11_judge_37 : decode cX11_judge 37 = .ok (.getfield 43, 3) := by decide +kernel
theorem dX11_judge_4 : decode cX11_judge 4 = .ok (.invokevirtual 245, 3) := by decide +kernel
theorem dX11_judge_40 : decode cX11_judge 40 = .ok (.getfield 248, 3) := by decide +kernel
theorem dX11_judge_43 : decode cX11_judge 43 = .ok (.ireturn, 1) := by decide +kernel
theorem dX11_judge_44 : decode cX11_judge 44 = .ok (.aload_n 0, 1) := by decide +kernel
theorem dX11_judge_45 : decode cX11_judge 45 = .ok (.getfield 43, 3) := by decide +kernel
theorem dX11_judge_48 : decode cX11_judge 48 = .ok (.getfield 251, 3) := by decide +kernel
theorem dX11_judge_51 : decode cX11_judge 51 = .ok (.ireturn, 1) := by decide +kernel
theorem dX11_judge_52 : decode cX11_judge 52 = .ok (.aload_n 0, 1) := by decide +kernel
theorem dX11_judge_53 : decode cX11_judge 53 = .ok (.getfield 43, 3) := by decide +kernel
theorem dX11_judge_56 : decode cX11_judge 56 = .ok (.getfield 254, 3) := by decide +kernel
theorem dX11_judge_59 : decode cX11_judge 59 = .ok (.ireturn, 1) := by decide +kernel
theorem dX11_judge_60 : decode cX11_judge 60 = .ok (.iconst (-1), 1) := by decide +kernel
theorem dX11_judge_61 : decode cX11_judge 61 = .ok (.ireturn, 1) := by decide +kernel
theorem dX11_judge_7 : decode cX11_judge 7 = .ok (.iload_n 1, 1) := by decide +kernel
theorem dX11_judge_8 : decode cX11_judge 8 = .ok (.tableswitch 52 0 2 #[28, 36, 44], 28) := by decide +kernel
theorem dX11_worth_0 : decode cX11_worth 0 = .ok (.aload_n 0, 1) := by decide +kernel
theorem dX11_worth_1 : decode cX11_worth 1 = .ok (.getfield 43, 3) := by decide +kernel
theorem dX11_worth_4 : decode cX11_worth 4 = .ok (.invokevirtual 257, 3) := by decide +kernel
theorem dX11_worth_7 : decode cX11_worth 7 = .ok (.ireturn, 1) := by decide +kernel
theorem dX11_spent_0 : decode cX11_spent 0 = .ok (.aload_n 0, 1) := by decide +kernel
theorem dX11_spent_1 : decode cX11_spent 1 = .ok (.getfield 52, 3) := by decide +kernel
theorem dX11_spent_4 : decode cX11_spent 4 = .ok (.getfield 266, 3) := by decide +kernel
theorem dX11_spent_7 : decode cX11_spent 7 = .ok (.ireturn, 1) := by decide +kernel
theorem dX11_both_0 : decode cX11_both 0 = .ok (.aload_n 0, 1) := by decide +kernel
theorem dX11_both_1 : decode cX11_both 1 = .ok (.iload_n 1, 1) := by decide +kernel
theorem dX11_both_10 : decode cX11_both 10 = .ok (.iconst 3, 1) := by decide +kernel
theorem dX11_both_11 : decode cX11_both 11 = .ok (.invokevirtual 89, 3) := by decide +kernel
theorem dX11_both_14 : decode cX11_both 14 = .ok (.pop, 1) := by decide +kernel
theorem dX11_both_15 : decode cX11_both 15 = .ok (.ldc_w 281, 3) := by decide +kernel
theorem dX11_both_18 : decode cX11_both 18 = .ok (.ireturn, 1) := by decide +kernel
theorem dX11_both_2 : decode cX11_both 2 = .ok (.iload_n 2, 1) := by decide +kernel
theorem dX11_both_3 : decode cX11_both 3 = .ok (.invokevirtual 278, 3) := by decide +kernel
theorem dX11_both_6 : decode cX11_both 6 = .ok (.ifCond .ne 13, 3) := by decide +kernel
theorem dX11_both_9 : decode cX11_both 9 = .ok (.aload_n 0, 1) := by decide +kernel
theorem dX11_trade_0 : decode cX11_trade 0 = .ok (.aload_n 0, 1) := by decide +kernel
theorem dX11_trade_1 : decode cX11_trade 1 = .ok (.iload_n 1, 1) := by decide +kernel
theorem dX11_trade_2 : decode cX11_trade 2 = .ok (.iload_n 2, 1) := by decide +kernel
theorem dX11_trade_21 : decode cX11_trade 21 = .ok (.ldc_w 281, 3) := by decide +kernel
theorem dX11_trade_24 : decode cX11_trade 24 = .ok (.ireturn, 1) := by decide +kernel
theorem dX11_trade_3 : decode cX11_trade 3 = .ok (.invokevirtual 278, 3) := by decide +kernel
theorem dX11_trade_6 : decode cX11_trade 6 = .ok (.ifCond .eq 15, 3) := by decide +kernel
theorem dX11_should_0 : decode cX11_should 0 = .ok (.iload_n 1, 1) := by decide +kernel
theorem dX11_should_1 : decode cX11_should 1 = .ok (.tableswitch 51 0 2 #[27, 35, 43], 27) := by decide +kernel
theorem dX11_should_28 : decode cX11_should 28 = .ok (.aload_n 0, 1) := by decide +kernel
theorem dX11_should_29 : decode cX11_should 29 = .ok (.getfield 43, 3) := by decide +kernel
theorem dX11_should_32 : decode cX11_should 32 = .ok (.invokevirtual 288, 3) := by decide +kernel
theorem dX11_should_35 : decode cX11_should 35 = .ok (.ireturn, 1) := by decide +kernel
theorem dX11_should_36 : decode cX11_should 36 = .ok (.aload_n 0, 1) := by decide +kernel
theorem dX11_should_37 : decode cX11_should 37 = .ok (.getfield 43, 3) := by decide +kernel
theorem dX11_should_40 : decode cX11_should 40 = .ok (.invokevirtual 291, 3) := by decide +kernel
theorem dX11_should_43 : decode cX11_should 43 = .ok (.ireturn, 1) := by decide +kernel
theorem dX11_should_44 : decode cX11_should 44 = .ok (.aload_n 0, 1) := by decide +kernel
theorem dX11_should_45 : decode cX11_should 45 = .ok (.getfield 43, 3) := by decide +kernel
theorem dX11_should_48 : decode cX11_should 48 = .ok (.invokevirtual 294, 3) := by decide +kernel
theorem dX11_should_51 : decode cX11_should 51 = .ok (.ireturn, 1) := by decide +kernel
theorem dX11_should_52 : decode cX11_should 52 = .ok (.iconst (-1), 1) := by decide +kernel
theorem dX11_should_53 : decode cX11_should 53 = .ok (.ireturn, 1) := by decide +kernel
theorem dX11_bound_0 : decode cX11_bound 0 = .ok (.aload_n 0, 1) := by decide +kernel
theorem dX11_bound_1 : decode cX11_bound 1 = .ok (.getfield 43, 3) := by decide +kernel
theorem dX11_bound_10 : decode cX11_bound 10 = .ok (.istore_n 2, 1) := by decide +kernel
theorem dX11_bound_11 : decode cX11_bound 11 = .ok (.iload_n 1, 1) := by decide +kernel
theorem dX11_bound_12 : decode cX11_bound 12 = .ok (.ifCond .eq 15, 3) := by decide +kernel
theorem dX11_bound_15 : decode cX11_bound 15 = .ok (.iload_n 2, 1) := by decide +kernel
theorem dX11_bound_16 : decode cX11_bound 16 = .ok (.aload_n 0, 1) := by decide +kernel
theorem dX11_bound_17 : decode cX11_bound 17 = .ok (.getfield 43, 3) := by decide +kernel
theorem dX11_bound_20 : decode cX11_bound 20 = .ok (.invokevirtual 300, 3) := by decide +kernel
theorem dX11_bound_23 : decode cX11_bound 23 = .ok (.isub, 1) := by decide +kernel
theorem dX11_bound_24 : decode cX11_bound 24 = .ok (.goto 4, 3) := by decide +kernel
theorem dX11_bound_27 : decode cX11_bound 27 = .ok (.iload_n 2, 1) := by decide +kernel
theorem dX11_bound_28 : decode cX11_bound 28 = .ok (.ireturn, 1) := by decide +kernel
theorem dX11_bound_4 : decode cX11_bound 4 = .ok (.getfield 121, 3) := by decide +kernel
theorem dX11_bound_7 : decode cX11_bound 7 = .ok (.invokevirtual 297, 3) := by decide +kernel
theorem dX11_alone_0 : decode cX11_alone 0 = .ok (.aload_n 0, 1) := by decide +kernel
theorem dX11_alone_1 : decode cX11_alone 1 = .ok (.iload_n 1, 1) := by decide +kernel
theorem dX11_alone_2 : decode cX11_alone 2 = .ok (.invokevirtual 184, 3) := by decide +kernel
theorem dX11_alone_28 : decode cX11_alone 28 = .ok (.ldc_w 281, 3) := by decide +kernel
theorem dX11_alone_31 : decode cX11_alone 31 = .ok (.ireturn, 1) := by decide +kernel
theorem dX11_alone_5 : decode cX11_alone 5 = .ok (.ifCond .eq 23, 3) := by decide +kernel
theorem dX11_seat_0 : decode cX11_seat 0 = .ok (.iload_n 1, 1) := by decide +kernel
theorem dX11_seat_1 : decode cX11_seat 1 = .ok (.invokestatic 230, 3) := by decide +kernel
theorem dX11_seat_12 : decode cX11_seat 12 = .ok (.ifCond .ne 5, 3) := by decide +kernel
theorem dX11_seat_15 : decode cX11_seat 15 = .ok (.iconst (-1), 1) := by decide +kernel
theorem dX11_seat_16 : decode cX11_seat 16 = .ok (.ireturn, 1) := by decide +kernel
theorem dX11_seat_4 : decode cX11_seat 4 = .ok (.ifCond .eq 11, 3) := by decide +kernel
theorem dX11_seat_7 : decode cX11_seat 7 = .ok (.aload_n 0, 1) := by decide +kernel
theorem dX11_seat_8 : decode cX11_seat 8 = .ok (.iload_n 2, 1) := by decide +kernel
theorem dX11_seat_9 : decode cX11_seat 9 = .ok (.invokevirtual 184, 3) := by decide +kernel
theorem dX11_shut_0 : decode cX11_shut 0 = .ok (.iload_n 1, 1) := by decide +kernel
theorem dX11_shut_1 : decode cX11_shut 1 = .ok (.invokestatic 230, 3) := by decide +kernel
theorem dX11_shut_11 : decode cX11_shut 11 = .ok (.iload_n 1, 1) := by decide +kernel
theorem dX11_shut_12 : decode cX11_shut 12 = .ok (.invokevirtual 361, 3) := by decide +kernel
theorem dX11_shut_15 : decode cX11_shut 15 = .ok (.goto 4, 3) := by decide +kernel
theorem dX11_shut_18 : decode cX11_shut 18 = .ok (.iconst (-1), 1) := by decide +kernel
theorem dX11_shut_19 : decode cX11_shut 19 = .ok (.ireturn, 1) := by decide +kernel
theorem dX11_shut_4 : decode cX11_shut 4 = .ok (.ifCond .eq 14, 3) := by decide +kernel
theorem dX11_shut_7 : decode cX11_shut 7 = .ok (.aload_n 0, 1) := by decide +kernel
theorem dX11_shut_8 : decode cX11_shut 8 = .ok (.getfield 59, 3) := by decide +kernel
theorem dX11_move_0 : decode cX11_move 0 = .ok (.aload_n 0, 1) := by decide +kernel
theorem dX11_move_1 : decode cX11_move 1 = .ok (.iload_n 1, 1) := by decide +kernel
theorem dX11_move_19 : decode cX11_move 19 = .ok (.iconst (-1), 1) := by decide +kernel
theorem dX11_move_2 : decode cX11_move 2 = .ok (.invokevirtual 184, 3) := by decide +kernel
theorem dX11_move_20 : decode cX11_move 20 = .ok (.ireturn, 1) := by decide +kernel
theorem dX11_move_5 : decode cX11_move 5 = .ok (.ifCond .eq 14, 3) := by decide +kernel
theorem dX11_octet_0 : decode cX11_octet 0 = .ok (.iload_n 1, 1) := by decide +kernel
theorem dX11_octet_1 : decode cX11_octet 1 = .ok (.aload_n 0, 1) := by decide +kernel
theorem dX11_octet_2 : decode cX11_octet 2 = .ok (.getfield 83, 3) := by decide +kernel
theorem dX11_octet_20 : decode cX11_octet 20 = .ok (.iconst (-1), 1) := by decide +kernel
theorem dX11_octet_21 : decode cX11_octet 21 = .ok (.ireturn, 1) := by decide +kernel
theorem dX11_octet_5 : decode cX11_octet 5 = .ok (.invokestatic 169, 3) := by decide +kernel
theorem dX11_octet_8 : decode cX11_octet 8 = .ok (.ifCond .eq 12, 3) := by decide +kernel
theorem dX11_status_0 : decode cX11_status 0 = .ok (.iload_n 1, 1) := by decide +kernel
theorem dX11_status_1 : decode cX11_status 1 = .ok (.bipush 6, 2) := by decide +kernel
theorem dX11_status_10 : decode cX11_status 10 = .ok (.getfield 86, 3) := by decide +kernel
theorem dX11_status_13 : decode cX11_status 13 = .ok (.iload_n 1, 1) := by decide +kernel
theorem dX11_status_14 : decode cX11_status 14 = .ok (.iaload, 1) := by decide +kernel
theorem dX11_status_15 : decode cX11_status 15 = .ok (.goto 4, 3) := by decide +kernel
theorem dX11_status_18 : decode cX11_status 18 = .ok (.iconst (-1), 1) := by decide +kernel
theorem dX11_status_19 : decode cX11_status 19 = .ok (.ireturn, 1) := by decide +kernel
theorem dX11_status_3 : decode cX11_status 3 = .ok (.invokestatic 169, 3) := by decide +kernel
theorem dX11_status_6 : decode cX11_status 6 = .ok (.ifCond .eq 12, 3) := by decide +kernel
theorem dX11_status_9 : decode cX11_status 9 = .ok (.aload_n 0, 1) := by decide +kernel
theorem dX11_end_0 : decode cX11_end 0 = .ok (.iload_n 1, 1) := by decide +kernel
theorem dX11_end_1 : decode cX11_end 1 = .ok (.ifCond .lt 11, 3) := by decide +kernel
theorem dX11_end_12 : decode cX11_end 12 = .ok (.aload_n 0, 1) := by decide +kernel
theorem dX11_end_13 : decode cX11_end 13 = .ok (.iconst 0, 1) := by decide +kernel
theorem dX11_end_14 : decode cX11_end 14 = .ok (.invokevirtual 89, 3) := by decide +kernel
theorem dX11_end_17 : decode cX11_end 17 = .ok (.pop, 1) := by decide +kernel
theorem dX11_end_18 : decode cX11_end 18 = .ok (.iconst 0, 1) := by decide +kernel
theorem dX11_end_19 : decode cX11_end 19 = .ok (.ireturn, 1) := by decide +kernel
theorem dX11_end_20 : decode cX11_end 20 = .ok (.aload_n 0, 1) := by decide +kernel
theorem dX11_end_21 : decode cX11_end 21 = .ok (.iload_n 1, 1) := by decide +kernel
theorem dX11_end_22 : decode cX11_end 22 = .ok (.putfield 13, 3) := by decide +kernel
theorem dX11_end_25 : decode cX11_end 25 = .ok (.iconst 1, 1) := by decide +kernel
theorem dX11_end_26 : decode cX11_end 26 = .ok (.ireturn, 1) := by decide +kernel
theorem dX11_end_4 : decode cX11_end 4 = .ok (.iload_n 1, 1) := by decide +kernel
theorem dX11_end_5 : decode cX11_end 5 = .ok (.aload_n 0, 1) := by decide +kernel
theorem dX11_end_6 : decode cX11_end 6 = .ok (.getfield 13, 3) := by decide +kernel
theorem dX11_end_9 : decode cX11_end 9 = .ok (.if_icmp .le 11, 3) := by decide +kernel
theorem dX11_seed_0 : decode cX11_seed 0 = .ok (.iload_n 1, 1) := by decide +kernel
theorem dX11_seed_1 : decode cX11_seed 1 = .ok (.ifCond .ge 11, 3) := by decide +kernel
theorem dX11_seed_10 : decode cX11_seed 10 = .ok (.iconst 0, 1) := by decide +kernel
theorem dX11_seed_11 : decode cX11_seed 11 = .ok (.ireturn, 1) := by decide +kernel
theorem dX11_seed_12 : decode cX11_seed 12 = .ok (.aload_n 0, 1) := by decide +kernel
theorem dX11_seed_13 : decode cX11_seed 13 = .ok (.iload_n 1, 1) := by decide +kernel
theorem dX11_seed_14 : decode cX11_seed 14 = .ok (.i2l, 1) := by decide +kernel
theorem dX11_seed_15 : decode cX11_seed 15 = .ok (.putfield 76, 3) := by decide +kernel
theorem dX11_seed_18 : decode cX11_seed 18 = .ok (.iconst 1, 1) := by decide +kernel
theorem dX11_seed_19 : decode cX11_seed 19 = .ok (.ireturn, 1) := by decide +kernel
theorem dX11_seed_4 : decode cX11_seed 4 = .ok (.aload_n 0, 1) := by decide +kernel
theorem dX11_seed_5 : decode cX11_seed 5 = .ok (.iconst 4, 1) := by decide +kernel
theorem dX11_seed_6 : decode cX11_seed 6 = .ok (.invokevirtual 89, 3) := by decide +kernel
theorem dX11_seed_9 : decode cX11_seed 9 = .ok (.pop, 1) := by decide +kernel
theorem dX11_never_0 : decode cX11_never 0 = .ok (.iload_n 1, 1) := by decide +kernel
theorem dX11_never_1 : decode cX11_never 1 = .ok (.iconst 1, 1) := by decide +kernel
theorem dX11_never_11 : decode cX11_never 11 = .ok (.aload_n 0, 1) := by decide +kernel
theorem dX11_never_12 : decode cX11_never 12 = .ok (.getfield 43, 3) := by decide +kernel
theorem dX11_never_15 : decode cX11_never 15 = .ok (.iload_n 1, 1) := by decide +kernel
theorem dX11_never_16 : decode cX11_never 16 = .ok (.invokevirtual 364, 3) := by decide +kernel
theorem dX11_never_19 : decode cX11_never 19 = .ok (.goto 4, 3) := by decide +kernel
theorem dX11_never_2 : decode cX11_never 2 = .ok (.if_icmp .lt 20, 3) := by decide +kernel
theorem dX11_never_22 : decode cX11_never 22 = .ok (.iconst (-1), 1) := by decide +kernel
theorem dX11_never_23 : decode cX11_never 23 = .ok (.ireturn, 1) := by decide +kernel
theorem dX11_never_5 : decode cX11_never 5 = .ok (.iload_n 1, 1) := by decide +kernel
theorem dX11_never_6 : decode cX11_never 6 = .ok (.bipush 9, 2) := by decide +kernel
theorem dX11_never_8 : decode cX11_never 8 = .ok (.if_icmp .gt 14, 3) := by decide +kernel
theorem dX11_weeks_0 : decode cX11_weeks 0 = .ok (.iconst 1, 1) := by decide +kernel
theorem dX11_weeks_1 : decode cX11_weeks 1 = .ok (.istore_n 1, 1) := by decide +kernel
theorem dX11_weeks_12 : decode cX11_weeks 12 = .ok (.iload_n 1, 1) := by decide +kernel
theorem dX11_weeks_13 : decode cX11_weeks 13 = .ok (.invokevirtual 364, 3) := by decide +kernel
theorem dX11_weeks_16 : decode cX11_weeks 16 = .ok (.ifCond .ne 5, 3) := by decide +kernel
theorem dX11_weeks_19 : decode cX11_weeks 19 = .ok (.iload_n 1, 1) := by decide +kernel
theorem dX11_weeks_2 : decode cX11_weeks 2 = .ok (.iload_n 1, 1) := by decide +kernel
theorem dX11_weeks_20 : decode cX11_weeks 20 = .ok (.ireturn, 1) := by decide +kernel
theorem dX11_weeks_3 : decode cX11_weeks 3 = .ok (.bipush 9, 2) := by decide +kernel
theorem dX11_weeks_5 : decode cX11_weeks 5 = .ok (.if_icmp .gt 22, 3) := by decide +kernel
theorem dX11_weeks_8 : decode cX11_weeks 8 = .ok (.aload_n 0, 1) := by decide +kernel
theorem dX11_weeks_9 : decode cX11_weeks 9 = .ok (.getfield 43, 3) := by decide +kernel
theorem dX11_fit_0 : decode cX11_fit 0 = .ok (.iload_n 1, 1) := by decide +kernel
theorem dX11_fit_1 : decode cX11_fit 1 = .ok (.invokestatic 230, 3) := by decide +kernel
theorem dX11_fit_11 : decode cX11_fit 11 = .ok (.iload_n 2, 1) := by decide +kernel
theorem dX11_fit_12 : decode cX11_fit 12 = .ok (.iconst 2, 1) := by decide +kernel
theorem dX11_fit_13 : decode cX11_fit 13 = .ok (.if_icmp .le 7, 3) := by decide +kernel
theorem dX11_fit_16 : decode cX11_fit 16 = .ok (.ldc_w 281, 3) := by decide +kernel
theorem dX11_fit_19 : decode cX11_fit 19 = .ok (.ireturn, 1) := by decide +kernel
theorem dX11_fit_20 : decode cX11_fit 20 = .ok (.aload_n 0, 1) := by decide +kernel
theorem dX11_fit_21 : decode cX11_fit 21 = .ok (.getfield 59, 3) := by decide +kernel
theorem dX11_fit_24 : decode cX11_fit 24 = .ok (.iload_n 1, 1) := by decide +kernel
theorem dX11_fit_25 : decode cX11_fit 25 = .ok (.invokevirtual 350, 3) := by decide +kernel
theorem dX11_fit_28 : decode cX11_fit 28 = .ok (.iload_n 2, 1) := by decide +kernel
theorem dX11_fit_29 : decode cX11_fit 29 = .ok (.ifCond .ne 11, 3) := by decide +kernel
theorem dX11_fit_32 : decode cX11_fit 32 = .ok (.aload_n 0, 1) := by decide +kernel
theorem dX11_fit_33 : decode cX11_fit 33 = .ok (.getfield 59, 3) := by decide +kernel
theorem dX11_fit_36 : decode cX11_fit 36 = .ok (.invokevirtual 358, 3) := by decide +kernel
theorem dX11_fit_39 : decode cX11_fit 39 = .ok (.ireturn, 1) := by decide +kernel
theorem dX11_fit_4 : decode cX11_fit 4 = .ok (.ifCond .eq 12, 3) := by decide +kernel
theorem dX11_fit_40 : decode cX11_fit 40 = .ok (.aload_n 0, 1) := by decide +kernel
theorem dX11_fit_41 : decode cX11_fit 41 = .ok (.getfield 59, 3) := by decide +kernel
theorem dX11_fit_44 : decode cX11_fit 44 = .ok (.invokevirtual 353, 3) := by decide +kernel
theorem dX11_fit_47 : decode cX11_fit 47 = .ok (.istore_n 3, 1) := by decide +kernel
theorem dX11_fit_48 : decode cX11_fit 48 = .ok (.iload_n 2, 1) := by decide +kernel
theorem dX11_fit_49 : decode cX11_fit 49 = .ok (.iconst 1, 1) := by decide +kernel
theorem dX11_fit_50 : decode cX11_fit 50 = .ok (.if_icmp .ne 13, 3) := by decide +kernel
theorem dX11_fit_53 : decode cX11_fit 53 = .ok (.aload_n 0, 1) := by decide +kernel
theorem dX11_fit_54 : decode cX11_fit 54 = .ok (.getfield 59, 3) := by decide +kernel
theorem dX11_fit_57 : decode cX11_fit 57 = .ok (.invokevirtual 358, 3) := by decide +kernel
theorem dX11_fit_60 : decode cX11_fit 60 = .ok (.goto 4, 3) := by decide +kernel
theorem dX11_fit_63 : decode cX11_fit 63 = .ok (.iload_n 3, 1) := by decide +kernel
theorem dX11_fit_64 : decode cX11_fit 64 = .ok (.ireturn, 1) := by decide +kernel
theorem dX11_fit_7 : decode cX11_fit 7 = .ok (.iload_n 2, 1) := by decide +kernel
theorem dX11_fit_8 : decode cX11_fit 8 = .ok (.ifCond .lt 8, 3) := by decide +kernel
theorem dX11_draw_0 : decode cX11_draw 0 = .ok (.iload_n 1, 1) := by decide +kernel
theorem dX11_draw_1 : decode cX11_draw 1 = .ok (.invokestatic 230, 3) := by decide +kernel
theorem dX11_draw_10 : decode cX11_draw 10 = .ok (.getfield 43, 3) := by decide +kernel
theorem dX11_draw_103 : decode cX11_draw 103 = .ok (.iload_n 3, 1) := by decide +kernel
theorem dX11_draw_104 : decode cX11_draw 104 = .ok (.ireturn, 1) := by decide +kernel
theorem dX11_draw_13 : decode cX11_draw 13 = .ok (.getfield 121, 3) := by decide +kernel
theorem dX11_draw_16 : decode cX11_draw 16 = .ok (.astore_n 2, 1) := by decide +kernel
theorem dX11_draw_17 : decode cX11_draw 17 = .ok (.iconst 0, 1) := by decide +kernel
theorem dX11_draw_18 : decode cX11_draw 18 = .ok (.istore_n 3, 1) := by decide +kernel
theorem dX11_draw_19 : decode cX11_draw 19 = .ok (.iconst 0, 1) := by decide +kernel
theorem dX11_draw_20 : decode cX11_draw 20 = .ok (.istore 4, 2) := by decide +kernel
theorem dX11_draw_22 : decode cX11_draw 22 = .ok (.iload 4, 2) := by decide +kernel
theorem dX11_draw_24 : decode cX11_draw 24 = .ok (.aload_n 2, 1) := by decide +kernel
theorem dX11_draw_25 : decode cX11_draw 25 = .ok (.getfield 139, 3) := by decide +kernel
theorem dX11_draw_28 : decode cX11_draw 28 = .ok (.getfield 143, 3) := by decide +kernel
theorem dX11_draw_31 : decode cX11_draw 31 = .ok (.if_icmp .ge 39, 3) := by decide +kernel
theorem dX11_draw_4 : decode cX11_draw 4 = .ok (.ifCond .ne 5, 3) := by decide +kernel
theorem dX11_draw_7 : decode cX11_draw 7 = .ok (.iconst (-1), 1) := by decide +kernel
theorem dX11_draw_70 : decode cX11_draw 70 = .ok (.iconst 0, 1) := by decide +kernel
theorem dX11_draw_71 : decode cX11_draw 71 = .ok (.istore 4, 2) := by decide +kernel
theorem dX11_draw_73 : decode cX11_draw 73 = .ok (.iload 4, 2) := by decide +kernel
theorem dX11_draw_75 : decode cX11_draw 75 = .ok (.aload_n 2, 1) := by decide +kernel
theorem dX11_draw_76 : decode cX11_draw 76 = .ok (.getfield 239, 3) := by decide +kernel
theorem dX11_draw_79 : decode cX11_draw 79 = .ok (.iload_n 1, 1) := by decide +kernel
theorem dX11_draw_8 : decode cX11_draw 8 = .ok (.ireturn, 1) := by decide +kernel
theorem dX11_draw_80 : decode cX11_draw 80 = .ok (.iaload, 1) := by decide +kernel
theorem dX11_draw_81 : decode cX11_draw 81 = .ok (.if_icmp .ge 22, 3) := by decide +kernel
theorem dX11_draw_9 : decode cX11_draw 9 = .ok (.aload_n 0, 1) := by decide +kernel
end
section
set_option maxHeartbeats 4000000 in
set_option maxRecDepth 100000 in
theorem k_X11_fault (l : Launch) (G : Gx) (x : Nat) (a : Int32) (x_0 : Nat) (sp : Nat) (stm : Nat) (pl : Nat) (sk : Nat) (se : Nat) (ch : Nat) (x_11 : Nat) (x_13 : Nat)  : CtI (S := Unit) l yX11_fault cX11_fault 2 (some .int) (rmD 1 0 0) G [.ref x, .int a] [(x, .inr (11, [.ref x_0, .int 0, .ref sp, .ref stm, .ref pl, .ref sk, .ref se, .ref ch, .int 0, .int (-1), .long 1, .ref x_11, .int 0, .ref x_13]))] (fun r _ => r = fFault a) (fun _ => []) := by
  refine ctI_of (own := RX11) (by decide +kernel) rfl (Nat.le_of_ble_eq_true rfl) ?_
  intro p e s m below meth c A ls F hr hlk hnm hK hP hD hA hS hl
  have hx := F.1
  have hb := F.2.1
  have hown := F.2.2.2.1
  have hl : lv_has ls 2 [(0, .ref x), (1, .int a)] := hl
  refine lv_iload_n hx hb dX11_fault_0 rfl (lv_at hl 1 rfl) ?_
  by_cases h1 : a = 0
  · subst h1
    refine lv_lookup (off := 27) (tgt := 28) hx hb dX11_fault_1 (by decide) (by decide) (by decide) ?_
    refine lv_aload_n hx hb dX11_fault_28 rfl (lv_at hl 0 rfl) ?_
    refine g_get F hK hP 0 rfl clX11 8 (by decide) flX11_70 rfl dX11_fault_29 ?_
    exact r_i F hr hlk hP hD hS () [] rfl rfl (by simp [fFault]) dX11_fault_32 (Nat.le_of_ble_eq_true rfl) (Nat.le_of_ble_eq_true rfl)
  by_cases h2 : a = 1
  · subst h2
    refine lv_lookup (off := 32) (tgt := 33) hx hb dX11_fault_1 (by decide) (by decide) (by decide) ?_
    refine lv_aload_n hx hb dX11_fault_33 rfl (lv_at hl 0 rfl) ?_
    refine g_get F hK hP 0 rfl clX11 9 (by decide) flX11_73 rfl dX11_fault_34 ?_
    exact r_i F hr hlk hP hD hS () [] rfl rfl (by simp [fFault, h1]) dX11_fault_37 (Nat.le_of_ble_eq_true rfl) (Nat.le_of_ble_eq_true rfl)
  refine lv_lookup (off := 37) (tgt := 38) hx hb dX11_fault_1 (by decide) ((lv_osw h1 rfl).trans ((lv_osw h2 rfl).trans rfl)) (by decide) ?_
  refine lv_iconst (v := (-1)) hx hb dX11_fault_38 (by decide) ?_
  exact r_i F hr hlk hP hD hS () [] rfl rfl (by simp [fFault, h1, h2]) dX11_fault_39 (Nat.le_of_ble_eq_true rfl) (Nat.le_of_ble_eq_true rfl)
set_option maxHeartbeats 4000000 in
set_option maxRecDepth 100000 in
theorem k_X11_has (l : Launch) (G : Gx) (x : Nat) (a : Int32) (x_0 : Nat) (sp : Nat) (stm : Nat) (pl : Nat) (sk : Nat) (se : Nat) (ch : Nat) (x_11 : Nat) (x_13 : Nat) (ho : Nat) (pl_1 : Nat) (pl_5 : Nat) (fl : Nat) (pe : Nat) (ru : Nat) (ho_4 : Nat) (ho_5 : Nat) (ho_6 : Nat) (ho_8 : Nat) (ho_9 : Nat) (ho_10 : Nat) (ho_11 : Nat) (ho_12 : Nat) (pe_1 : Nat) (pe_2 : Nat) (pe_3 : Nat) (pe_4 : Nat) (pe_5 : Nat) (pe_6 : Nat) (pe_7 : Nat) (pe_8 : Nat) (pe_9 : Nat) (pe_10 : Nat) (fl_3 : Nat) (fl_4 : Nat) (fl_5 : Nat) (fl_6 : Nat) (fl_7 : Nat) (ru_2 : Nat) (ru_3 : Nat) (ru_4 : Nat) (ru_5 : Nat) (ru_6 : Nat) (ru_7 : Nat)  : CtI (S := Unit) l yX11_has cX11_has 3 (some .int) (rmD 2 0 0) G [.ref x, .int a] [(x, .inr (11, [.ref x_0, .int 0, .ref sp, .ref stm, .ref pl, .ref sk, .ref se, .ref ch, .int 0, .int (-1), .long 1, .ref x_11, .int 0, .ref x_13])), (pl, .inr (4, [.ref ho, .ref pl_1, .int 0, .int (-1), .int (-1), .ref pl_5])), (ho, .inr (2, [.ref fl, .ref pe, .ref ru, .int 0, .ref ho_4, .ref ho_5, .ref ho_6, .int 0, .ref ho_8, .ref ho_9, .ref ho_10, .ref ho_11, .ref ho_12, .int 50])), (pe, .inr (3, [.int 0, .ref pe_1, .ref pe_2, .ref pe_3, .ref pe_4, .ref pe_5, .ref pe_6, .ref pe_7, .ref pe_8, .ref pe_9, .ref pe_10])), (fl, .inr (1, [.int 0, .int 0, .int 0, .ref fl_3, .ref fl_4, .ref fl_5, .ref fl_6, .ref fl_7])), (ru, .inr (7, [.int 0, .int 0, .ref ru_2, .ref ru_3, .ref ru_4, .ref ru_5, .ref ru_6, .ref ru_7]))] (fun r _ => r = fHas a) (fun _ => []) := by
  refine ctI_of (own := RX11) (by decide +kernel) rfl (Nat.le_of_ble_eq_true rfl) ?_
  intro p e s m below meth c A ls F hr hlk hnm hK hP hD hA hS hl
  have hx := F.1
  have hb := F.2.1
  have hown := F.2.2.2.1
  have hl : lv_has ls 3 [(0, .ref x), (1, .int a)] := hl
  refine lv_aload_n hx hb dX11_has_0 rfl (lv_at hl 0 rfl) ?_
  refine g_get F hK hP 0 rfl clX11 4 (by decide) flX11_43 rfl dX11_has_1 ?_
  refine g_get F hK hP 1 rfl clX4 0 (by decide) flX11_121 rfl dX11_has_4 ?_
  refine lv_astore_n (lv' := [(2, .ref ho), (0, .ref x), (1, .int a)]) hx hb dX11_has_7 rfl hl (by decide) rfl (fun ls hl => ?_)
  refine lv_iload_n hx hb dX11_has_8 rfl (lv_at hl 2 rfl) ?_
  by_cases h1 : a = 0
  · subst h1
    refine lv_tableIn (off := 51) (tgt := 60) hx hb dX11_has_9 (by decide) (by decide) rfl (by decide) ?_
    refine lv_aload_n hx hb dX11_has_60 rfl (lv_at hl 0 rfl) ?_
    refine g_get F hK hP 2 rfl clX2 0 (by decide) flX11_129 rfl dX11_has_61 ?_
    refine g_get F hK hP 4 rfl clX1 0 (by decide) flX11_133 rfl dX11_has_64 ?_
    exact r_i F hr hlk hP hD hS () [] rfl rfl (by simp [fHas]) dX11_has_67 (Nat.le_of_ble_eq_true rfl) (Nat.le_of_ble_eq_true rfl)
  by_cases h2 : a = 1
  · subst h2
    refine lv_tableIn (off := 59) (tgt := 68) hx hb dX11_has_9 (by decide) (by decide) rfl (by decide) ?_
    refine lv_aload_n hx hb dX11_has_68 rfl (lv_at hl 0 rfl) ?_
    refine g_get F hK hP 2 rfl clX2 3 (by decide) flX11_136 rfl dX11_has_69 ?_
    exact r_i F hr hlk hP hD hS () [] rfl rfl (by simp [fHas, h1]) dX11_has_72 (Nat.le_of_ble_eq_true rfl) (Nat.le_of_ble_eq_true rfl)
  by_cases h3 : a = 2
  · subst h3
    refine lv_tableIn (off := 64) (tgt := 73) hx hb dX11_has_9 (by decide) (by decide) rfl (by decide) ?_
    refine lv_aload_n hx hb dX11_has_73 rfl (lv_at hl 0 rfl) ?_
    refine g_get F hK hP 2 rfl clX2 1 (by decide) flX11_139 rfl dX11_has_74 ?_
    refine g_get F hK hP 3 rfl clX3 0 (by decide) flX11_143 rfl dX11_has_77 ?_
    exact r_i F hr hlk hP hD hS () [] rfl rfl (by simp [fHas, h1, h2]) dX11_has_80 (Nat.le_of_ble_eq_true rfl) (Nat.le_of_ble_eq_true rfl)
  by_cases h4 : a = 3
  · subst h4
    refine lv_tableIn (off := 72) (tgt := 81) hx hb dX11_has_9 (by decide) (by decide) rfl (by decide) ?_
    refine lv_aload_n hx hb dX11_has_81 rfl (lv_at hl 0 rfl) ?_
    refine g_get F hK hP 2 rfl clX2 7 (by decide) flX11_146 rfl dX11_has_82 ?_
    exact r_i F hr hlk hP hD hS () [] rfl rfl (by simp [fHas, h1, h2, h3]) dX11_has_85 (Nat.le_of_ble_eq_true rfl) (Nat.le_of_ble_eq_true rfl)
  by_cases h5 : a = 4
  · subst h5
    refine lv_tableIn (off := 77) (tgt := 86) hx hb dX11_has_9 (by decide) (by decide) rfl (by decide) ?_
    refine lv_aload_n hx hb dX11_has_86 rfl (lv_at hl 0 rfl) ?_
    refine g_get F hK hP 2 rfl clX2 0 (by decide) flX11_129 rfl dX11_has_87 ?_
    refine g_get F hK hP 4 rfl clX1 1 (by decide) flX11_149 rfl dX11_has_90 ?_
    exact r_i F hr hlk hP hD hS () [] rfl rfl (by simp [fHas, h1, h2, h3, h4]) dX11_has_93 (Nat.le_of_ble_eq_true rfl) (Nat.le_of_ble_eq_true rfl)
  by_cases h6 : a = 5
  · subst h6
    refine lv_tableIn (off := 85) (tgt := 94) hx hb dX11_has_9 (by decide) (by decide) rfl (by decide) ?_
    refine lv_aload_n hx hb dX11_has_94 rfl (lv_at hl 0 rfl) ?_
    refine g_get F hK hP 2 rfl clX2 0 (by decide) flX11_129 rfl dX11_has_95 ?_
    refine g_get F hK hP 4 rfl clX1 2 (by decide) flX11_152 rfl dX11_has_98 ?_
    exact r_i F hr hlk hP hD hS () [] rfl rfl (by simp [fHas, h1, h2, h3, h4, h5]) dX11_has_101 (Nat.le_of_ble_eq_true rfl) (Nat.le_of_ble_eq_true rfl)
  by_cases h7 : a = 6
  · subst h7
    refine lv_tableIn (off := 93) (tgt := 102) hx hb dX11_has_9 (by decide) (by decide) rfl (by decide) ?_
    refine lv_aload_n hx hb dX11_has_102 rfl (lv_at hl 0 rfl) ?_
    refine g_get F hK hP 2 rfl clX2 2 (by decide) flX11_155 rfl dX11_has_103 ?_
    refine g_get F hK hP 5 rfl clX7 0 (by decide) flX11_159 rfl dX11_has_106 ?_
    exact r_i F hr hlk hP hD hS () [] rfl rfl (by simp [fHas, h1, h2, h3, h4, h5, h6]) dX11_has_109 (Nat.le_of_ble_eq_true rfl) (Nat.le_of_ble_eq_true rfl)
  by_cases h8 : a = 7
  · subst h8
    refine lv_tableIn (off := 101) (tgt := 110) hx hb dX11_has_9 (by decide) (by decide) rfl (by decide) ?_
    refine lv_aload_n hx hb dX11_has_110 rfl (lv_at hl 0 rfl) ?_
    refine g_get F hK hP 2 rfl clX2 13 (by decide) flX11_162 rfl dX11_has_111 ?_
    exact r_i F hr hlk hP hD hS () [] rfl rfl (by simp [fHas, h1, h2, h3, h4, h5, h6, h7]) dX11_has_114 (Nat.le_of_ble_eq_true rfl) (Nat.le_of_ble_eq_true rfl)
  by_cases h9 : a = 8
  · subst h9
    refine lv_tableIn (off := 106) (tgt := 115) hx hb dX11_has_9 (by decide) (by decide) rfl (by decide) ?_
    refine lv_aload_n hx hb dX11_has_115 rfl (lv_at hl 0 rfl) ?_
    refine cvi (wr := [(x, .inr (11, [.ref x_0, .int 0, .ref sp, .ref stm, .ref pl, .ref sk, .ref se, .ref ch, .int 0, .int (-1), .long 1, .ref x_11, .int 0, .ref x_13])), (pl, .inr (4, [.ref ho, .ref pl_1, .int 0, .int (-1), .int (-1), .ref pl_5])), (pe, .inr (3, [.int 0, .ref pe_1, .ref pe_2, .ref pe_3, .ref pe_4, .ref pe_5, .ref pe_6, .ref pe_7, .ref pe_8, .ref pe_9, .ref pe_10])), (fl, .inr (1, [.int 0, .int 0, .int 0, .ref fl_3, .ref fl_4, .ref fl_5, .ref fl_6, .ref fl_7])), (ru, .inr (7, [.int 0, .int 0, .ref ru_2, .ref ru_3, .ref ru_4, .ref ru_5, .ref ru_6, .ref ru_7]))]) (As := []) (rest := []) (b := ho) (k1 := 0) (s1 := 0) F hK hP hD hS hA (k_X2_meetingTeams l G ho fl pe ru ho_4 ho_5 ho_6 ho_8 ho_9 ho_10 ho_11 ho_12) kmV_X2_meetingTeams mlX11_165 clX2 rfl 0 rfl ⟨(Nat.le_of_ble_eq_true rfl), (Nat.le_of_ble_eq_true rfl)⟩ [2] [0, 1, 3, 4, 5] rfl rfl rfl rfl (by decide) hl.1 rfl (Nat.le_of_ble_eq_true rfl) dX11_has_116 ⟨(Nat.le_of_ble_eq_true rfl), (Nat.le_of_ble_eq_true rfl)⟩ rfl rfl (fun r11 u10 H locs hwr11 (hP : va_P G.1 vwCl [(x, .inr (11, [.ref x_0, .int 0, .ref sp, .ref stm, .ref pl, .ref sk, .ref se, .ref ch, .int 0, .int (-1), .long 1, .ref x_11, .int 0, .ref x_13])), (pl, .inr (4, [.ref ho, .ref pl_1, .int 0, .int (-1), .int (-1), .ref pl_5])), (pe, .inr (3, [.int 0, .ref pe_1, .ref pe_2, .ref pe_3, .ref pe_4, .ref pe_5, .ref pe_6, .ref pe_7, .ref pe_8, .ref pe_9, .ref pe_10])), (fl, .inr (1, [.int 0, .int 0, .int 0, .ref fl_3, .ref fl_4, .ref fl_5, .ref fl_6, .ref fl_7])), (ru, .inr (7, [.int 0, .int 0, .ref ru_2, .ref ru_3, .ref ru_4, .ref ru_5, .ref ru_6, .ref ru_7])), (ho, .inr (2, [.ref fl, .ref pe, .ref ru, .int 0, .ref ho_4, .ref ho_5, .ref ho_6, .int 0, .ref ho_8, .ref ho_9, .ref ho_10, .ref ho_11, .ref ho_12, .int 50]))] H) (hD : va_D A [(x, .inr (11, [.ref x_0, .int 0, .ref sp, .ref stm, .ref pl, .ref sk, .ref se, .ref ch, .int 0, .int (-1), .long 1, .ref x_11, .int 0, .ref x_13])), (pl, .inr (4, [.ref ho, .ref pl_1, .int 0, .int (-1), .int (-1), .ref pl_5])), (pe, .inr (3, [.int 0, .ref pe_1, .ref pe_2, .ref pe_3, .ref pe_4, .ref pe_5, .ref pe_6, .ref pe_7, .ref pe_8, .ref pe_9, .ref pe_10])), (fl, .inr (1, [.int 0, .int 0, .int 0, .ref fl_3, .ref fl_4, .ref fl_5, .ref fl_6, .ref fl_7])), (ru, .inr (7, [.int 0, .int 0, .ref ru_2, .ref ru_3, .ref ru_4, .ref ru_5, .ref ru_6, .ref ru_7])), (ho, .inr (2, [.ref fl, .ref pe, .ref ru, .int 0, .ref ho_4, .ref ho_5, .ref ho_6, .int 0, .ref ho_8, .ref ho_9, .ref ho_10, .ref ho_11, .ref ho_12, .int 50]))]) hS => ?_)
    subst hwr11
    exact r_i F hr hlk hP hD hS () [] rfl rfl (by simp [fHas, h1, h2, h3, h4, h5, h6, h7, h8]) dX11_has_119 (Nat.le_of_ble_eq_true rfl) (Nat.le_of_ble_eq_true rfl)
  refine lv_tableOut (tgt := 120) hx hb dX11_has_9 (by have gh1 := lv_neT h1 (a := 0) rfl; have gh2 := lv_neT h2 (a := 1) rfl; have gh3 := lv_neT h3 (a := 2) rfl; have gh4 := lv_neT h4 (a := 3) rfl; have gh5 := lv_neT h5 (a := 4) rfl; have gh6 := lv_neT h6 (a := 5) rfl; have gh7 := lv_neT h7 (a := 6) rfl; have gh8 := lv_neT h8 (a := 7) rfl; have gh9 := lv_neT h9 (a := 8) rfl; omega) (by decide) ?_
  refine lv_iconst (v := (-1)) hx hb dX11_has_120 (by decide) ?_
  exact r_i F hr hlk hP hD hS () [] rfl rfl (by simp [fHas, h1, h2, h3, h4, h5, h6, h7, h8, h9]) dX11_has_121 (Nat.le_of_ble_eq_true rfl) (Nat.le_of_ble_eq_true rfl)
set_option maxHeartbeats 4000000 in
set_option maxRecDepth 100000 in
theorem k_X11_letter (l : Launch) (G : Gx) (x : Nat) (a : Int32) (b : Int32) (d : Int32) (x_0 : Nat) (sp : Nat) (stm : Nat) (pl : Nat) (sk : Nat) (se : Nat) (ch : Nat) (x_11 : Nat) (x_13 : Nat) (ho : Nat) (pl_1 : Nat) (pl_5 : Nat) (fl : Nat) (pe : Nat) (ru : Nat) (ho_4 : Nat) (ho_5 : Nat) (ho_6 : Nat) (ho_8 : Nat) (ho_9 : Nat) (ho_10 : Nat) (ho_11 : Nat) (ho_12 : Nat) (pe_1 : Nat) (pe_2 : Nat) (pe_3 : Nat) (pe_4 : Nat) (pe_5 : Nat) (pe_6 : Nat) (pe_7 : Nat) (pe_8 : Nat) (pe_9 : Nat) (pe_10 : Nat) (fl_3 : Nat) (fl_4 : Nat) (fl_5 : Nat) (fl_6 : Nat) (fl_7 : Nat)  : CtI (S := Unit) l yX11_letter cX11_letter 5 (some .int) (rmD 2 0 0) G [.ref x, .int a, .int b, .int d] [(x, .inr (11, [.ref x_0, .int 0, .ref sp, .ref stm, .ref pl, .ref sk, .ref se, .ref ch, .int 0, .int (-1), .long 1, .ref x_11, .int 0, .ref x_13])), (pl, .inr (4, [.ref ho, .ref pl_1, .int 0, .int (-1), .int (-1), .ref pl_5])), (ho, .inr (2, [.ref fl, .ref pe, .ref ru, .int 0, .ref ho_4, .ref ho_5, .ref ho_6, .int 0, .ref ho_8, .ref ho_9, .ref ho_10, .ref ho_11, .ref ho_12, .int 50])), (pe, .inr (3, [.int 0, .ref pe_1, .ref pe_2, .ref pe_3, .ref pe_4, .ref pe_5, .ref pe_6, .ref pe_7, .ref pe_8, .ref pe_9, .ref pe_10])), (fl, .inr (1, [.int 0, .int 0, .int 0, .ref fl_3, .ref fl_4, .ref fl_5, .ref fl_6, .ref fl_7]))] (fun r _ => r = (-1)) (fun _ => []) := by
  refine ctI_of (own := RX11) (by decide +kernel) rfl (Nat.le_of_ble_eq_true rfl) ?_
  intro p e s m below meth c A ls F hr hlk hnm hK hP hD hA hS hl
  have hx := F.1
  have hb := F.2.1
  have hown := F.2.2.2.1
  have hl : lv_has ls 5 [(0, .ref x), (1, .int a), (2, .int b), (3, .int d)] := hl
  refine lv_aload_n hx hb dX11_letter_0 rfl (lv_at hl 0 rfl) ?_
  refine g_get F hK hP 0 rfl clX11 4 (by decide) flX11_43 rfl dX11_letter_1 ?_
  refine g_get F hK hP 1 rfl clX4 0 (by decide) flX11_121 rfl dX11_letter_4 ?_
  refine lv_astore (lv' := [(4, .ref ho), (0, .ref x), (1, .int a), (2, .int b), (3, .int d)]) hx hb dX11_letter_7 hl (by decide) rfl (fun ls hl => ?_)
  refine lv_iload_n hx hb dX11_letter_9 rfl (lv_at hl 2 rfl) ?_
  by_cases h1 : a = 0
  · subst h1
    refine lv_tableIn (off := 26) (tgt := 36) hx hb dX11_letter_10 (by decide) (by decide) rfl (by decide) ?_
    refine lv_iload_n hx hb dX11_letter_36 rfl (lv_at hl 3 rfl) ?_
    refine lv_aload hx hb dX11_letter_37 (lv_at hl 0 rfl) ?_
    refine g_get F hK hP 2 rfl clX2 0 (by decide) flX11_129 rfl dX11_letter_39 ?_
    refine g_get F hK hP 4 rfl clX1 0 (by decide) flX11_133 rfl dX11_letter_42 ?_
    refine csi (wr := [(x, .inr (11, [.ref x_0, .int 0, .ref sp, .ref stm, .ref pl, .ref sk, .ref se, .ref ch, .int 0, .int (-1), .long 1, .ref x_11, .int 0, .ref x_13])), (pl, .inr (4, [.ref ho, .ref pl_1, .int 0, .int (-1), .int (-1), .ref pl_5])), (ho, .inr (2, [.ref fl, .ref pe, .ref ru, .int 0, .ref ho_4, .ref ho_5, .ref ho_6, .int 0, .ref ho_8, .ref ho_9, .ref ho_10, .ref ho_11, .ref ho_12, .int 50])), (pe, .inr (3, [.int 0, .ref pe_1, .ref pe_2, .ref pe_3, .ref pe_4, .ref pe_5, .ref pe_6, .ref pe_7, .ref pe_8, .ref pe_9, .ref pe_10])), (fl, .inr (1, [.int 0, .int 0, .int 0, .ref fl_3, .ref fl_4, .ref fl_5, .ref fl_6, .ref fl_7]))]) (As := [.int b, .int 0]) (rest := []) (k1 := 0) (s1 := 0) F hK hP hD hS hA (k_X11_isBelow l G b 0) kmS_X11_isBelow mlX11_169 ⟨(Nat.le_of_ble_eq_true rfl), (Nat.le_of_ble_eq_true rfl)⟩ [] [0, 1, 2, 3, 4] rfl rfl rfl rfl (by decide) hl.1 rfl (Nat.le_of_ble_eq_true rfl) dX11_letter_45 ⟨(Nat.le_of_ble_eq_true rfl), (Nat.le_of_ble_eq_true rfl)⟩ rfl rfl (fun r3 u2 H locs hwr3 (hP : va_P G.1 vwCl [(x, .inr (11, [.ref x_0, .int 0, .ref sp, .ref stm, .ref pl, .ref sk, .ref se, .ref ch, .int 0, .int (-1), .long 1, .ref x_11, .int 0, .ref x_13])), (pl, .inr (4, [.ref ho, .ref pl_1, .int 0, .int (-1), .int (-1), .ref pl_5])), (ho, .inr (2, [.ref fl, .ref pe, .ref ru, .int 0, .ref ho_4, .ref ho_5, .ref ho_6, .int 0, .ref ho_8, .ref ho_9, .ref ho_10, .ref ho_11, .ref ho_12, .int 50])), (pe, .inr (3, [.int 0, .ref pe_1, .ref pe_2, .ref pe_3, .ref pe_4, .ref pe_5, .ref pe_6, .ref pe_7, .ref pe_8, .ref pe_9, .ref pe_10])), (fl, .inr (1, [.int 0, .int 0, .int 0, .ref fl_3, .ref fl_4, .ref fl_5, .ref fl_6, .ref fl_7]))] H) (hD : va_D A [(x, .inr (11, [.ref x_0, .int 0, .ref sp, .ref stm, .ref pl, .ref sk, .ref se, .ref ch, .int 0, .int (-1), .long 1, .ref x_11, .int 0, .ref x_13])), (pl, .inr (4, [.ref ho, .ref pl_1, .int 0, .int (-1), .int (-1), .ref pl_5])), (ho, .inr (2, [.ref fl, .ref pe, .ref ru, .int 0, .ref ho_4, .ref ho_5, .ref ho_6, .int 0, .ref ho_8, .ref ho_9, .ref ho_10, .ref ho_11, .ref ho_12, .int 50])), (pe, .inr (3, [.int 0, .ref pe_1, .ref pe_2, .ref pe_3, .ref pe_4, .ref pe_5, .ref pe_6, .ref pe_7, .ref pe_8, .ref pe_9, .ref pe_10])), (fl, .inr (1, [.int 0, .int 0, .int 0, .ref fl_3, .ref fl_4, .ref fl_5, .ref fl_6, .ref fl_7]))]) hS => ?_)
    subst hwr3
    refine cst_i (y := 0) (isB_0 _) ?_
    refine lv_if_eq (tgt := 68) hx hb dX11_letter_48 (by decide) (fun _ => ?_) (fun h_ => absurd (by decide +kernel) h_)
    refine lv_iconst (v := (-1)) hx hb dX11_letter_68 (by decide) ?_
    exact r_i F hr hlk hP hD hS () [] rfl rfl rfl dX11_letter_69 (Nat.le_of_ble_eq_true rfl) (Nat.le_of_ble_eq_true rfl)
  by_cases h4 : a = 1
  · subst h4
    refine lv_tableIn (off := 60) (tgt := 70) hx hb dX11_letter_10 (by decide) (by decide) rfl (by decide) ?_
    refine lv_iload_n hx hb dX11_letter_70 rfl (lv_at hl 3 rfl) ?_
    refine lv_aload hx hb dX11_letter_71 (lv_at hl 0 rfl) ?_
    refine g_get F hK hP 2 rfl clX2 3 (by decide) flX11_136 rfl dX11_letter_73 ?_
    refine csi (wr := [(x, .inr (11, [.ref x_0, .int 0, .ref sp, .ref stm, .ref pl, .ref sk, .ref se, .ref ch, .int 0, .int (-1), .long 1, .ref x_11, .int 0, .ref x_13])), (pl, .inr (4, [.ref ho, .ref pl_1, .int 0, .int (-1), .int (-1), .ref pl_5])), (ho, .inr (2, [.ref fl, .ref pe, .ref ru, .int 0, .ref ho_4, .ref ho_5, .ref ho_6, .int 0, .ref ho_8, .ref ho_9, .ref ho_10, .ref ho_11, .ref ho_12, .int 50])), (pe, .inr (3, [.int 0, .ref pe_1, .ref pe_2, .ref pe_3, .ref pe_4, .ref pe_5, .ref pe_6, .ref pe_7, .ref pe_8, .ref pe_9, .ref pe_10])), (fl, .inr (1, [.int 0, .int 0, .int 0, .ref fl_3, .ref fl_4, .ref fl_5, .ref fl_6, .ref fl_7]))]) (As := [.int b, .int 0]) (rest := []) (k1 := 0) (s1 := 0) F hK hP hD hS hA (k_X11_isBelow l G b 0) kmS_X11_isBelow mlX11_169 ⟨(Nat.le_of_ble_eq_true rfl), (Nat.le_of_ble_eq_true rfl)⟩ [] [0, 1, 2, 3, 4] rfl rfl rfl rfl (by decide) hl.1 rfl (Nat.le_of_ble_eq_true rfl) dX11_letter_76 ⟨(Nat.le_of_ble_eq_true rfl), (Nat.le_of_ble_eq_true rfl)⟩ rfl rfl (fun r6 u5 H locs hwr6 (hP : va_P G.1 vwCl [(x, .inr (11, [.ref x_0, .int 0, .ref sp, .ref stm, .ref pl, .ref sk, .ref se, .ref ch, .int 0, .int (-1), .long 1, .ref x_11, .int 0, .ref x_13])), (pl, .inr (4, [.ref ho, .ref pl_1, .int 0, .int (-1), .int (-1), .ref pl_5])), (ho, .inr (2, [.ref fl, .ref pe, .ref ru, .int 0, .ref ho_4, .ref ho_5, .ref ho_6, .int 0, .ref ho_8, .ref ho_9, .ref ho_10, .ref ho_11, .ref ho_12, .int 50])), (pe, .inr (3, [.int 0, .ref pe_1, .ref pe_2, .ref pe_3, .ref pe_4, .ref pe_5, .ref pe_6, .ref pe_7, .ref pe_8, .ref pe_9, .ref pe_10])), (fl, .inr (1, [.int 0, .int 0, .int 0, .ref fl_3, .ref fl_4, .ref fl_5, .ref fl_6, .ref fl_7]))] H) (hD : va_D A [(x, .inr (11, [.ref x_0, .int 0, .ref sp, .ref stm, .ref pl, .ref sk, .ref se, .ref ch, .int 0, .int (-1), .long 1, .ref x_11, .int 0, .ref x_13])), (pl, .inr (4, [.ref ho, .ref pl_1, .int 0, .int (-1), .int (-1), .ref pl_5])), (ho, .inr (2, [.ref fl, .ref pe, .ref ru, .int 0, .ref ho_4, .ref ho_5, .ref ho_6, .int 0, .ref ho_8, .ref ho_9, .ref ho_10, .ref ho_11, .ref ho_12, .int 50])), (pe, .inr (3, [.int 0, .ref pe_1, .ref pe_2, .ref pe_3, .ref pe_4, .ref pe_5, .ref pe_6, .ref pe_7, .ref pe_8, .ref pe_9, .ref pe_10])), (fl, .inr (1, [.int 0, .int 0, .int 0, .ref fl_3, .ref fl_4, .ref fl_5, .ref fl_6, .ref fl_7]))]) hS => ?_)
    subst hwr6
    refine cst_i (y := 0) (isB_0 _) ?_
    refine lv_if_eq (tgt := 96) hx hb dX11_letter_79 (by decide) (fun _ => ?_) (fun h_ => absurd (by decide +kernel) h_)
    refine lv_iconst (v := (-1)) hx hb dX11_letter_96 (by decide) ?_
    exact r_i F hr hlk hP hD hS () [] rfl rfl rfl dX11_letter_97 (Nat.le_of_ble_eq_true rfl) (Nat.le_of_ble_eq_true rfl)
  by_cases h7 : a = 2
  · subst h7
    refine lv_tableIn (off := 88) (tgt := 98) hx hb dX11_letter_10 (by decide) (by decide) rfl (by decide) ?_
    refine lv_iload_n hx hb dX11_letter_98 rfl (lv_at hl 3 rfl) ?_
    refine lv_aload hx hb dX11_letter_99 (lv_at hl 0 rfl) ?_
    refine g_get F hK hP 2 rfl clX2 1 (by decide) flX11_139 rfl dX11_letter_101 ?_
    refine g_get F hK hP 3 rfl clX3 0 (by decide) flX11_143 rfl dX11_letter_104 ?_
    refine csi (wr := [(x, .inr (11, [.ref x_0, .int 0, .ref sp, .ref stm, .ref pl, .ref sk, .ref se, .ref ch, .int 0, .int (-1), .long 1, .ref x_11, .int 0, .ref x_13])), (pl, .inr (4, [.ref ho, .ref pl_1, .int 0, .int (-1), .int (-1), .ref pl_5])), (ho, .inr (2, [.ref fl, .ref pe, .ref ru, .int 0, .ref ho_4, .ref ho_5, .ref ho_6, .int 0, .ref ho_8, .ref ho_9, .ref ho_10, .ref ho_11, .ref ho_12, .int 50])), (pe, .inr (3, [.int 0, .ref pe_1, .ref pe_2, .ref pe_3, .ref pe_4, .ref pe_5, .ref pe_6, .ref pe_7, .ref pe_8, .ref pe_9, .ref pe_10])), (fl, .inr (1, [.int 0, .int 0, .int 0, .ref fl_3, .ref fl_4, .ref fl_5, .ref fl_6, .ref fl_7]))]) (As := [.int b, .int 0]) (rest := []) (k1 := 0) (s1 := 0) F hK hP hD hS hA (k_X11_isBelow l G b 0) kmS_X11_isBelow mlX11_169 ⟨(Nat.le_of_ble_eq_true rfl), (Nat.le_of_ble_eq_true rfl)⟩ [] [0, 1, 2, 3, 4] rfl rfl rfl rfl (by decide) hl.1 rfl (Nat.le_of_ble_eq_true rfl) dX11_letter_107 ⟨(Nat.le_of_ble_eq_true rfl), (Nat.le_of_ble_eq_true rfl)⟩ rfl rfl (fun r9 u8 H locs hwr9 (hP : va_P G.1 vwCl [(x, .inr (11, [.ref x_0, .int 0, .ref sp, .ref stm, .ref pl, .ref sk, .ref se, .ref ch, .int 0, .int (-1), .long 1, .ref x_11, .int 0, .ref x_13])), (pl, .inr (4, [.ref ho, .ref pl_1, .int 0, .int (-1), .int (-1), .ref pl_5])), (ho, .inr (2, [.ref fl, .ref pe, .ref ru, .int 0, .ref ho_4, .ref ho_5, .ref ho_6, .int 0, .ref ho_8, .ref ho_9, .ref ho_10, .ref ho_11, .ref ho_12, .int 50])), (pe, .inr (3, [.int 0, .ref pe_1, .ref pe_2, .ref pe_3, .ref pe_4, .ref pe_5, .ref pe_6, .ref pe_7, .ref pe_8, .ref pe_9, .ref pe_10])), (fl, .inr (1, [.int 0, .int 0, .int 0, .ref fl_3, .ref fl_4, .ref fl_5, .ref fl_6, .ref fl_7]))] H) (hD : va_D A [(x, .inr (11, [.ref x_0, .int 0, .ref sp, .ref stm, .ref pl, .ref sk, .ref se, .ref ch, .int 0, .int (-1), .long 1, .ref x_11, .int 0, .ref x_13])), (pl, .inr (4, [.ref ho, .ref pl_1, .int 0, .int (-1), .int (-1), .ref pl_5])), (ho, .inr (2, [.ref fl, .ref pe, .ref ru, .int 0, .ref ho_4, .ref ho_5, .ref ho_6, .int 0, .ref ho_8, .ref ho_9, .ref ho_10, .ref ho_11, .ref ho_12, .int 50])), (pe, .inr (3, [.int 0, .ref pe_1, .ref pe_2, .ref pe_3, .ref pe_4, .ref pe_5, .ref pe_6, .ref pe_7, .ref pe_8, .ref pe_9, .ref pe_10])), (fl, .inr (1, [.int 0, .int 0, .int 0, .ref fl_3, .ref fl_4, .ref fl_5, .ref fl_6, .ref fl_7]))]) hS => ?_)
    subst hwr9
    refine cst_i (y := 0) (isB_0 _) ?_
    refine lv_if_eq (tgt := 130) hx hb dX11_letter_110 (by decide) (fun _ => ?_) (fun h_ => absurd (by decide +kernel) h_)
    refine lv_iconst (v := (-1)) hx hb dX11_letter_130 (by decide) ?_
    exact r_i F hr hlk hP hD hS () [] rfl rfl rfl dX11_letter_131 (Nat.le_of_ble_eq_true rfl) (Nat.le_of_ble_eq_true rfl)
  refine lv_tableOut (tgt := 132) hx hb dX11_letter_10 (by have gh1 := lv_neT h1 (a := 0) rfl; have gh4 := lv_neT h4 (a := 1) rfl; have gh7 := lv_neT h7 (a := 2) rfl; omega) (by decide) ?_
  refine lv_iconst (v := (-1)) hx hb dX11_letter_132 (by decide) ?_
  exact r_i F hr hlk hP hD hS () [] rfl rfl rfl dX11_letter_133 (Nat.le_of_ble_eq_true rfl) (Nat.le_of_ble_eq_true rfl)
set_option maxHeartbeats 4000000 in
set_option maxRecDepth 100000 in
theorem k_X11_person (l : Launch) (G : Gx) (x : Nat) (a : Int32) (b : Int32) (x_0 : Nat) (sp : Nat) (stm : Nat) (pl : Nat) (sk : Nat) (se : Nat) (ch : Nat) (x_11 : Nat) (x_13 : Nat) (ho : Nat) (pl_1 : Nat) (pl_5 : Nat) (fl : Nat) (pe : Nat) (ru : Nat) (ho_4 : Nat) (ho_5 : Nat) (ho_6 : Nat) (ho_8 : Nat) (ho_9 : Nat) (ho_10 : Nat) (ho_11 : Nat) (ho_12 : Nat) (pe_1 : Nat) (pe_2 : Nat) (pe_3 : Nat) (pe_4 : Nat) (pe_5 : Nat) (pe_6 : Nat) (pe_7 : Nat) (pe_8 : Nat) (pe_9 : Nat) (pe_10 : Nat) (fl_3 : Nat) (fl_4 : Nat) (fl_5 : Nat) (fl_6 : Nat) (fl_7 : Nat)  : CtI (S := Unit) l yX11_person cX11_person 4 (some .int) (rmD 3 0 0) G [.ref x, .int a, .int b] [(x, .inr (11, [.ref x_0, .int 0, .ref sp, .ref stm, .ref pl, .ref sk, .ref se, .ref ch, .int 0, .int (-1), .long 1, .ref x_11, .int 0, .ref x_13])), (pl, .inr (4, [.ref ho, .ref pl_1, .int 0, .int (-1), .int (-1), .ref pl_5])), (ho, .inr (2, [.ref fl, .ref pe, .ref ru, .int 0, .ref ho_4, .ref ho_5, .ref ho_6, .int 0, .ref ho_8, .ref ho_9, .ref ho_10, .ref ho_11, .ref ho_12, .int 50])), (pe, .inr (3, [.int 0, .ref pe_1, .ref pe_2, .ref pe_3, .ref pe_4, .ref pe_5, .ref pe_6, .ref pe_7, .ref pe_8, .ref pe_9, .ref pe_10])), (fl, .inr (1, [.int 0, .int 0, .int 0, .ref fl_3, .ref fl_4, .ref fl_5, .ref fl_6, .ref fl_7]))] (fun r _ => r = (-1)) (fun _ => []) := by
  refine ctI_of (own := RX11) (by decide +kernel) rfl (Nat.le_of_ble_eq_true rfl) ?_
  intro p e s m below meth c A ls F hr hlk hnm hK hP hD hA hS hl
  have hx := F.1
  have hb := F.2.1
  have hown := F.2.2.2.1
  have hl : lv_has ls 4 [(0, .ref x), (1, .int a), (2, .int b)] := hl
  refine lv_aload_n hx hb dX11_person_0 rfl (lv_at hl 0 rfl) ?_
  refine g_get F hK hP 0 rfl clX11 4 (by decide) flX11_43 rfl dX11_person_1 ?_
  refine g_get F hK hP 1 rfl clX4 0 (by decide) flX11_121 rfl dX11_person_4 ?_
  refine g_get F hK hP 2 rfl clX2 1 (by decide) flX11_139 rfl dX11_person_7 ?_
  refine lv_astore_n (lv' := [(3, .ref pe), (0, .ref x), (1, .int a), (2, .int b)]) hx hb dX11_person_10 rfl hl (by decide) rfl (fun ls hl => ?_)
  refine lv_aload_n hx hb dX11_person_11 rfl (lv_at hl 1 rfl) ?_
  refine lv_iload_n hx hb dX11_person_12 rfl (lv_at hl 2 rfl) ?_
  refine cvi (wr := [(fl, .inr (1, [.int 0, .int 0, .int 0, .ref fl_3, .ref fl_4, .ref fl_5, .ref fl_6, .ref fl_7]))]) (As := [.int a]) (rest := []) (b := x) (k1 := 0) (s1 := 0) F hK hP hD hS hA (k_X11_isPerson l G x a x_0 sp stm pl sk se ch x_11 x_13 ho pl_1 pl_5 fl pe ru ho_4 ho_5 ho_6 ho_8 ho_9 ho_10 ho_11 ho_12 pe_1 pe_2 pe_3 pe_4 pe_5 pe_6 pe_7 pe_8 pe_9 pe_10) kmV_X11_isPerson mlX11_184 clX11 rfl 0 rfl ⟨(Nat.le_of_ble_eq_true rfl), (Nat.le_of_ble_eq_true rfl)⟩ [0, 1, 2, 3] [4] rfl rfl rfl rfl (by decide) hl.1 rfl (Nat.le_of_ble_eq_true rfl) dX11_person_13 ⟨(Nat.le_of_ble_eq_true rfl), (Nat.le_of_ble_eq_true rfl)⟩ rfl rfl (fun r2 u1 H locs hwr2 (hP : va_P G.1 vwCl [(fl, .inr (1, [.int 0, .int 0, .int 0, .ref fl_3, .ref fl_4, .ref fl_5, .ref fl_6, .ref fl_7])), (x, .inr (11, [.ref x_0, .int 0, .ref sp, .ref stm, .ref pl, .ref sk, .ref se, .ref ch, .int 0, .int (-1), .long 1, .ref x_11, .int 0, .ref x_13])), (pl, .inr (4, [.ref ho, .ref pl_1, .int 0, .int (-1), .int (-1), .ref pl_5])), (ho, .inr (2, [.ref fl, .ref pe, .ref ru, .int 0, .ref ho_4, .ref ho_5, .ref ho_6, .int 0, .ref ho_8, .ref ho_9, .ref ho_10, .ref ho_11, .ref ho_12, .int 50])), (pe, .inr (3, [.int 0, .ref pe_1, .ref pe_2, .ref pe_3, .ref pe_4, .ref pe_5, .ref pe_6, .ref pe_7, .ref pe_8, .ref pe_9, .ref pe_10]))] H) (hD : va_D A [(fl, .inr (1, [.int 0, .int 0, .int 0, .ref fl_3, .ref fl_4, .ref fl_5, .ref fl_6, .ref fl_7])), (x, .inr (11, [.ref x_0, .int 0, .ref sp, .ref stm, .ref pl, .ref sk, .ref se, .ref ch, .int 0, .int (-1), .long 1, .ref x_11, .int 0, .ref x_13])), (pl, .inr (4, [.ref ho, .ref pl_1, .int 0, .int (-1), .int (-1), .ref pl_5])), (ho, .inr (2, [.ref fl, .ref pe, .ref ru, .int 0, .ref ho_4, .ref ho_5, .ref ho_6, .int 0, .ref ho_8, .ref ho_9, .ref ho_10, .ref ho_11, .ref ho_12, .int 50])), (pe, .inr (3, [.int 0, .ref pe_1, .ref pe_2, .ref pe_3, .ref pe_4, .ref pe_5, .ref pe_6, .ref pe_7, .ref pe_8, .ref pe_9, .ref pe_10]))]) hS => ?_)
  subst hwr2
  refine lv_if_ne (tgt := 21) hx hb dX11_person_16 (by decide) (fun h_ => absurd (by decide +kernel) h_) (fun _ => ?_)
  refine lv_iconst (v := (-1)) hx hb dX11_person_19 (by decide) ?_
  exact r_i F hr hlk hP hD hS () [] rfl rfl rfl dX11_person_20 (Nat.le_of_ble_eq_true rfl) (Nat.le_of_ble_eq_true rfl)
set_option maxHeartbeats 4000000 in
set_option maxRecDepth 100000 in
theorem k_X11_floor (l : Launch) (G : Gx) (x : Nat) (a : Int32) (b : Int32) (x_0 : Nat) (sp : Nat) (stm : Nat) (pl : Nat) (sk : Nat) (se : Nat) (ch : Nat) (x_11 : Nat) (x_13 : Nat) (ho : Nat) (pl_1 : Nat) (pl_5 : Nat) (fl : Nat) (pe : Nat) (ru : Nat) (ho_4 : Nat) (ho_5 : Nat) (ho_6 : Nat) (ho_8 : Nat) (ho_9 : Nat) (ho_10 : Nat) (ho_11 : Nat) (ho_12 : Nat) (pe_1 : Nat) (pe_2 : Nat) (pe_3 : Nat) (pe_4 : Nat) (pe_5 : Nat) (pe_6 : Nat) (pe_7 : Nat) (pe_8 : Nat) (pe_9 : Nat) (pe_10 : Nat) (fl_3 : Nat) (fl_4 : Nat) (fl_5 : Nat) (fl_6 : Nat) (fl_7 : Nat)  : CtI (S := Unit) l yX11_floor cX11_floor 4 (some .int) (rmD 2 0 0) G [.ref x, .int a, .int b] [(x, .inr (11, [.ref x_0, .int 0, .ref sp, .ref stm, .ref pl, .ref sk, .ref se, .ref ch, .int 0, .int (-1), .long 1, .ref x_11, .int 0, .ref x_13])), (pl, .inr (4, [.ref ho, .ref pl_1, .int 0, .int (-1), .int (-1), .ref pl_5])), (ho, .inr (2, [.ref fl, .ref pe, .ref ru, .int 0, .ref ho_4, .ref ho_5, .ref ho_6, .int 0, .ref ho_8, .ref ho_9, .ref ho_10, .ref ho_11, .ref ho_12, .int 50])), (pe, .inr (3, [.int 0, .ref pe_1, .ref pe_2, .ref pe_3, .ref pe_4, .ref pe_5, .ref pe_6, .ref pe_7, .ref pe_8, .ref pe_9, .ref pe_10])), (fl, .inr (1, [.int 0, .int 0, .int 0, .ref fl_3, .ref fl_4, .ref fl_5, .ref fl_6, .ref fl_7]))] (fun r _ => r = (-1)) (fun _ => []) := by
  refine ctI_of (own := RX11) (by decide +kernel) rfl (Nat.le_of_ble_eq_true rfl) ?_
  intro p e s m below meth c A ls F hr hlk hnm hK hP hD hA hS hl
  have hx := F.1
  have hb := F.2.1
  have hown := F.2.2.2.1
  have hl : lv_has ls 4 [(0, .ref x), (1, .int a), (2, .int b)] := hl
  refine lv_aload_n hx hb dX11_floor_0 rfl (lv_at hl 0 rfl) ?_
  refine g_get F hK hP 0 rfl clX11 4 (by decide) flX11_43 rfl dX11_floor_1 ?_
  refine g_get F hK hP 1 rfl clX4 0 (by decide) flX11_121 rfl dX11_floor_4 ?_
  refine g_get F hK hP 2 rfl clX2 0 (by decide) flX11_129 rfl dX11_floor_7 ?_
  refine lv_astore_n (lv' := [(3, .ref fl), (0, .ref x), (1, .int a), (2, .int b)]) hx hb dX11_floor_10 rfl hl (by decide) rfl (fun ls hl => ?_)
  refine lv_iload_n hx hb dX11_floor_11 rfl (lv_at hl 2 rfl) ?_
  refine lv_aload_n hx hb dX11_floor_12 rfl (lv_at hl 0 rfl) ?_
  refine g_get F hK hP 4 rfl clX1 0 (by decide) flX11_133 rfl dX11_floor_13 ?_
  refine csi (wr := [(x, .inr (11, [.ref x_0, .int 0, .ref sp, .ref stm, .ref pl, .ref sk, .ref se, .ref ch, .int 0, .int (-1), .long 1, .ref x_11, .int 0, .ref x_13])), (pl, .inr (4, [.ref ho, .ref pl_1, .int 0, .int (-1), .int (-1), .ref pl_5])), (ho, .inr (2, [.ref fl, .ref pe, .ref ru, .int 0, .ref ho_4, .ref ho_5, .ref ho_6, .int 0, .ref ho_8, .ref ho_9, .ref ho_10, .ref ho_11, .ref ho_12, .int 50])), (pe, .inr (3, [.int 0, .ref pe_1, .ref pe_2, .ref pe_3, .ref pe_4, .ref pe_5, .ref pe_6, .ref pe_7, .ref pe_8, .ref pe_9, .ref pe_10])), (fl, .inr (1, [.int 0, .int 0, .int 0, .ref fl_3, .ref fl_4, .ref fl_5, .ref fl_6, .ref fl_7]))]) (As := [.int a, .int 0]) (rest := []) (k1 := 0) (s1 := 0) F hK hP hD hS hA (k_X11_isBelow l G a 0) kmS_X11_isBelow mlX11_169 ⟨(Nat.le_of_ble_eq_true rfl), (Nat.le_of_ble_eq_true rfl)⟩ [] [0, 1, 2, 3, 4] rfl rfl rfl rfl (by decide) hl.1 rfl (Nat.le_of_ble_eq_true rfl) dX11_floor_16 ⟨(Nat.le_of_ble_eq_true rfl), (Nat.le_of_ble_eq_true rfl)⟩ rfl rfl (fun r2 u1 H locs hwr2 (hP : va_P G.1 vwCl [(x, .inr (11, [.ref x_0, .int 0, .ref sp, .ref stm, .ref pl, .ref sk, .ref se, .ref ch, .int 0, .int (-1), .long 1, .ref x_11, .int 0, .ref x_13])), (pl, .inr (4, [.ref ho, .ref pl_1, .int 0, .int (-1), .int (-1), .ref pl_5])), (ho, .inr (2, [.ref fl, .ref pe, .ref ru, .int 0, .ref ho_4, .ref ho_5, .ref ho_6, .int 0, .ref ho_8, .ref ho_9, .ref ho_10, .ref ho_11, .ref ho_12, .int 50])), (pe, .inr (3, [.int 0, .ref pe_1, .ref pe_2, .ref pe_3, .ref pe_4, .ref pe_5, .ref pe_6, .ref pe_7, .ref pe_8, .ref pe_9, .ref pe_10])), (fl, .inr (1, [.int 0, .int 0, .int 0, .ref fl_3, .ref fl_4, .ref fl_5, .ref fl_6, .ref fl_7]))] H) (hD : va_D A [(x, .inr (11, [.ref x_0, .int 0, .ref sp, .ref stm, .ref pl, .ref sk, .ref se, .ref ch, .int 0, .int (-1), .long 1, .ref x_11, .int 0, .ref x_13])), (pl, .inr (4, [.ref ho, .ref pl_1, .int 0, .int (-1), .int (-1), .ref pl_5])), (ho, .inr (2, [.ref fl, .ref pe, .ref ru, .int 0, .ref ho_4, .ref ho_5, .ref ho_6, .int 0, .ref ho_8, .ref ho_9, .ref ho_10, .ref ho_11, .ref ho_12, .int 50])), (pe, .inr (3, [.int 0, .ref pe_1, .ref pe_2, .ref pe_3, .ref pe_4, .ref pe_5, .ref pe_6, .ref pe_7, .ref pe_8, .ref pe_9, .ref pe_10])), (fl, .inr (1, [.int 0, .int 0, .int 0, .ref fl_3, .ref fl_4, .ref fl_5, .ref fl_6, .ref fl_7]))]) hS => ?_)
  subst hwr2
  refine cst_i (y := 0) (isB_0 _) ?_
  refine lv_if_ne (tgt := 24) hx hb dX11_floor_19 (by decide) (fun h_ => absurd (by decide +kernel) h_) (fun _ => ?_)
  refine lv_iconst (v := (-1)) hx hb dX11_floor_22 (by decide) ?_
  exact r_i F hr hlk hP hD hS () [] rfl rfl rfl dX11_floor_23 (Nat.le_of_ble_eq_true rfl) (Nat.le_of_ble_eq_true rfl)
set_option maxHeartbeats 4000000 in
set_option maxRecDepth 100000 in
theorem k_X11_put (l : Launch) (G : Gx) (x : Nat) (a : Int32) (b : Int32) (x_0 : Nat) (sp : Nat) (stm : Nat) (pl : Nat) (sk : Nat) (se : Nat) (ch : Nat) (x_11 : Nat) (x_13 : Nat) (ho : Nat) (pl_1 : Nat) (pl_5 : Nat) (fl : Nat) (pe : Nat) (ru : Nat) (ho_4 : Nat) (ho_5 : Nat) (ho_6 : Nat) (ho_8 : Nat) (ho_9 : Nat) (ho_10 : Nat) (ho_11 : Nat) (ho_12 : Nat) (pe_1 : Nat) (pe_2 : Nat) (pe_3 : Nat) (pe_4 : Nat) (pe_5 : Nat) (pe_6 : Nat) (pe_7 : Nat) (pe_8 : Nat) (pe_9 : Nat) (pe_10 : Nat) (fl_3 : Nat) (fl_4 : Nat) (fl_5 : Nat) (fl_6 : Nat) (fl_7 : Nat)  : CtI (S := Unit) l yX11_put cX11_put 3 (some .boolean) (rmD 3 0 0) G [.ref x, .int a, .int b] [(x, .inr (11, [.ref x_0, .int 0, .ref sp, .ref stm, .ref pl, .ref sk, .ref se, .ref ch, .int 0, .int (-1), .long 1, .ref x_11, .int 0, .ref x_13])), (pl, .inr (4, [.ref ho, .ref pl_1, .int 0, .int (-1), .int (-1), .ref pl_5])), (ho, .inr (2, [.ref fl, .ref pe, .ref ru, .int 0, .ref ho_4, .ref ho_5, .ref ho_6, .int 0, .ref ho_8, .ref ho_9, .ref ho_10, .ref ho_11, .ref ho_12, .int 50])), (pe, .inr (3, [.int 0, .ref pe_1, .ref pe_2, .ref pe_3, .ref pe_4, .ref pe_5, .ref pe_6, .ref pe_7, .ref pe_8, .ref pe_9, .ref pe_10])), (fl, .inr (1, [.int 0, .int 0, .int 0, .ref fl_3, .ref fl_4, .ref fl_5, .ref fl_6, .ref fl_7])), (x_13, .inl (G.2.1, 6, .inl (fun _ => 0)))] (fun r _ => r = 0) (fun _ => []) := by
  refine ctI_of (own := RX11) (by decide +kernel) rfl (Nat.le_of_ble_eq_true rfl) ?_
  intro p e s m below meth c A ls F hr hlk hnm hK hP hD hA hS hl
  have hx := F.1
  have hb := F.2.1
  have hown := F.2.2.2.1
  have hl : lv_has ls 3 [(0, .ref x), (1, .int a), (2, .int b)] := hl
  refine lv_aload_n hx hb dX11_put_0 rfl (lv_at hl 0 rfl) ?_
  refine lv_iload_n hx hb dX11_put_1 rfl (lv_at hl 1 rfl) ?_
  refine cvi (wr := [(fl, .inr (1, [.int 0, .int 0, .int 0, .ref fl_3, .ref fl_4, .ref fl_5, .ref fl_6, .ref fl_7])), (x_13, .inl (G.2.1, 6, .inl (fun _ => 0)))]) (As := [.int a]) (rest := []) (b := x) (k1 := 0) (s1 := 0) F hK hP hD hS hA (k_X11_isPerson l G x a x_0 sp stm pl sk se ch x_11 x_13 ho pl_1 pl_5 fl pe ru ho_4 ho_5 ho_6 ho_8 ho_9 ho_10 ho_11 ho_12 pe_1 pe_2 pe_3 pe_4 pe_5 pe_6 pe_7 pe_8 pe_9 pe_10) kmV_X11_isPerson mlX11_184 clX11 rfl 0 rfl ⟨(Nat.le_of_ble_eq_true rfl), (Nat.le_of_ble_eq_true rfl)⟩ [0, 1, 2, 3] [4, 5] rfl rfl rfl rfl (by decide) hl.1 rfl (Nat.le_of_ble_eq_true rfl) dX11_put_2 ⟨(Nat.le_of_ble_eq_true rfl), (Nat.le_of_ble_eq_true rfl)⟩ rfl rfl (fun r2 u1 H locs hwr2 (hP : va_P G.1 vwCl [(fl, .inr (1, [.int 0, .int 0, .int 0, .ref fl_3, .ref fl_4, .ref fl_5, .ref fl_6, .ref fl_7])), (x_13, .inl (G.2.1, 6, .inl (fun _ => 0))), (x, .inr (11, [.ref x_0, .int 0, .ref sp, .ref stm, .ref pl, .ref sk, .ref se, .ref ch, .int 0, .int (-1), .long 1, .ref x_11, .int 0, .ref x_13])), (pl, .inr (4, [.ref ho, .ref pl_1, .int 0, .int (-1), .int (-1), .ref pl_5])), (ho, .inr (2, [.ref fl, .ref pe, .ref ru, .int 0, .ref ho_4, .ref ho_5, .ref ho_6, .int 0, .ref ho_8, .ref ho_9, .ref ho_10, .ref ho_11, .ref ho_12, .int 50])), (pe, .inr (3, [.int 0, .ref pe_1, .ref pe_2, .ref pe_3, .ref pe_4, .ref pe_5, .ref pe_6, .ref pe_7, .ref pe_8, .ref pe_9, .ref pe_10]))] H) (hD : va_D A [(fl, .inr (1, [.int 0, .int 0, .int 0, .ref fl_3, .ref fl_4, .ref fl_5, .ref fl_6, .ref fl_7])), (x_13, .inl (G.2.1, 6, .inl (fun _ => 0))), (x, .inr (11, [.ref x_0, .int 0, .ref sp, .ref stm, .ref pl, .ref sk, .ref se, .ref ch, .int 0, .int (-1), .long 1, .ref x_11, .int 0, .ref x_13])), (pl, .inr (4, [.ref ho, .ref pl_1, .int 0, .int (-1), .int (-1), .ref pl_5])), (ho, .inr (2, [.ref fl, .ref pe, .ref ru, .int 0, .ref ho_4, .ref ho_5, .ref ho_6, .int 0, .ref ho_8, .ref ho_9, .ref ho_10, .ref ho_11, .ref ho_12, .int 50])), (pe, .inr (3, [.int 0, .ref pe_1, .ref pe_2, .ref pe_3, .ref pe_4, .ref pe_5, .ref pe_6, .ref pe_7, .ref pe_8, .ref pe_9, .ref pe_10]))]) hS => ?_)
  subst hwr2
  refine lv_if_eq (tgt := 18) hx hb dX11_put_5 (by decide) (fun _ => ?_) (fun h_ => absurd (by decide +kernel) h_)
  refine lv_aload_n hx hb dX11_put_18 rfl (lv_at hl 0 rfl) ?_
  refine lv_iconst (v := 2) hx hb dX11_put_19 (by decide) ?_
  refine cvi (wr := [(fl, .inr (1, [.int 0, .int 0, .int 0, .ref fl_3, .ref fl_4, .ref fl_5, .ref fl_6, .ref fl_7])), (pl, .inr (4, [.ref ho, .ref pl_1, .int 0, .int (-1), .int (-1), .ref pl_5])), (ho, .inr (2, [.ref fl, .ref pe, .ref ru, .int 0, .ref ho_4, .ref ho_5, .ref ho_6, .int 0, .ref ho_8, .ref ho_9, .ref ho_10, .ref ho_11, .ref ho_12, .int 50])), (pe, .inr (3, [.int 0, .ref pe_1, .ref pe_2, .ref pe_3, .ref pe_4, .ref pe_5, .ref pe_6, .ref pe_7, .ref pe_8, .ref pe_9, .ref pe_10]))]) (As := [.int 2]) (rest := []) (b := x) (k1 := 0) (s1 := 0) F hK hP hD hS hA (k_X11_refuse l G x 2 x_0 sp stm pl sk se ch x_11 x_13 (vin (by decide +kernel))) kmV_X11_refuse mlX11_89 clX11 rfl 0 rfl ⟨(Nat.le_of_ble_eq_true rfl), (Nat.le_of_ble_eq_true rfl)⟩ [2, 1] [0, 3, 4, 5] rfl rfl rfl rfl (by decide) hl.1 rfl (Nat.le_of_ble_eq_true rfl) dX11_put_20 ⟨(Nat.le_of_ble_eq_true rfl), (Nat.le_of_ble_eq_true rfl)⟩ rfl rfl (fun r4 u3 H locs hwr4 (hP : va_P G.1 vwCl [(fl, .inr (1, [.int 0, .int 0, .int 0, .ref fl_3, .ref fl_4, .ref fl_5, .ref fl_6, .ref fl_7])), (pl, .inr (4, [.ref ho, .ref pl_1, .int 0, .int (-1), .int (-1), .ref pl_5])), (ho, .inr (2, [.ref fl, .ref pe, .ref ru, .int 0, .ref ho_4, .ref ho_5, .ref ho_6, .int 0, .ref ho_8, .ref ho_9, .ref ho_10, .ref ho_11, .ref ho_12, .int 50])), (pe, .inr (3, [.int 0, .ref pe_1, .ref pe_2, .ref pe_3, .ref pe_4, .ref pe_5, .ref pe_6, .ref pe_7, .ref pe_8, .ref pe_9, .ref pe_10])), (x, .inr (11, [.ref x_0, .int 0, .ref sp, .ref stm, .ref pl, .ref sk, .ref se, .ref ch, .int 0, .int (-1), .long 1, .ref x_11, .int 0, .ref x_13]))] H) (hD : va_D A [(fl, .inr (1, [.int 0, .int 0, .int 0, .ref fl_3, .ref fl_4, .ref fl_5, .ref fl_6, .ref fl_7])), (pl, .inr (4, [.ref ho, .ref pl_1, .int 0, .int (-1), .int (-1), .ref pl_5])), (ho, .inr (2, [.ref fl, .ref pe, .ref ru, .int 0, .ref ho_4, .ref ho_5, .ref ho_6, .int 0, .ref ho_8, .ref ho_9, .ref ho_10, .ref ho_11, .ref ho_12, .int 50])), (pe, .inr (3, [.int 0, .ref pe_1, .ref pe_2, .ref pe_3, .ref pe_4, .ref pe_5, .ref pe_6, .ref pe_7, .ref pe_8, .ref pe_9, .ref pe_10])), (x, .inr (11, [.ref x_0, .int 0, .ref sp, .ref stm, .ref pl, .ref sk, .ref se, .ref ch, .int 0, .int (-1), .long 1, .ref x_11, .int 0, .ref x_13]))]) hS => ?_)
  subst hwr4
  refine lv_pop hx hb dX11_put_23 rfl ?_
  refine lv_iconst (v := 0) hx hb dX11_put_24 (by decide) ?_
  exact r_z F hr hlk hP hD hS () [] rfl rfl rfl dX11_put_25 (Nat.le_of_ble_eq_true rfl) (Nat.le_of_ble_eq_true rfl) (by decide)
set_option maxHeartbeats 4000000 in
set_option maxRecDepth 100000 in
theorem k_X11_row (l : Launch) (G : Gx) (x : Nat) (x_0 : Nat) (sp : Nat) (stm : Nat) (pl : Nat) (sk : Nat) (se : Nat) (ch : Nat) (x_11 : Nat) (x_13 : Nat) (ho : Nat) (pl_1 : Nat) (pl_5 : Nat) (fl : Nat) (pe : Nat) (ru : Nat) (ho_4 : Nat) (ho_5 : Nat) (ho_6 : Nat) (ho_8 : Nat) (ho_9 : Nat) (ho_10 : Nat) (ho_11 : Nat) (ho_12 : Nat) (pe_1 : Nat) (pe_2 : Nat) (pe_3 : Nat) (pe_4 : Nat) (pe_5 : Nat) (pe_6 : Nat) (pe_7 : Nat) (pe_8 : Nat) (pe_9 : Nat) (pe_10 : Nat) (fl_3 : Nat) (fl_4 : Nat) (fl_5 : Nat) (fl_6 : Nat) (fl_7 : Nat)  : CtI (S := Unit) l yX11_row cX11_row 2 (some .boolean) (rmD 2 0 0) G [.ref x] [(x, .inr (11, [.ref x_0, .int 0, .ref sp, .ref stm, .ref pl, .ref sk, .ref se, .ref ch, .int 0, .int (-1), .long 1, .ref x_11, .int 0, .ref x_13])), (pl, .inr (4, [.ref ho, .ref pl_1, .int 0, .int (-1), .int (-1), .ref pl_5])), (ho, .inr (2, [.ref fl, .ref pe, .ref ru, .int 0, .ref ho_4, .ref ho_5, .ref ho_6, .int 0, .ref ho_8, .ref ho_9, .ref ho_10, .ref ho_11, .ref ho_12, .int 50])), (pe, .inr (3, [.int 0, .ref pe_1, .ref pe_2, .ref pe_3, .ref pe_4, .ref pe_5, .ref pe_6, .ref pe_7, .ref pe_8, .ref pe_9, .ref pe_10])), (fl, .inr (1, [.int 0, .int 0, .int 0, .ref fl_3, .ref fl_4, .ref fl_5, .ref fl_6, .ref fl_7])), (x_13, .inl (G.2.1, 6, .inl (fun _ => 0)))] (fun r _ => r = 1) (fun _ => []) := by
  refine ctI_of (own := RX11) (by decide +kernel) rfl (Nat.le_of_ble_eq_true rfl) ?_
  intro p e s m below meth c A ls F hr hlk hnm hK hP hD hA hS hl
  have hx := F.1
  have hb := F.2.1
  have hown := F.2.2.2.1
  have hl : lv_has ls 2 [(0, .ref x)] := hl
  refine lv_aload_n hx hb dX11_row_0 rfl (lv_at hl 0 rfl) ?_
  refine g_get F hK hP 0 rfl clX11 4 (by decide) flX11_43 rfl dX11_row_1 ?_
  refine g_get F hK hP 1 rfl clX4 0 (by decide) flX11_121 rfl dX11_row_4 ?_
  refine g_get F hK hP 2 rfl clX2 1 (by decide) flX11_139 rfl dX11_row_7 ?_
  refine g_get F hK hP 3 rfl clX3 0 (by decide) flX11_143 rfl dX11_row_10 ?_
  refine lv_istore_n (lv' := [(1, .int 0), (0, .ref x)]) hx hb dX11_row_13 rfl hl (by decide) rfl (fun ls hl => ?_)
  refine lv_aload_n hx hb dX11_row_14 rfl (lv_at hl 1 rfl) ?_
  refine g_get F hK hP 0 rfl clX11 1 (by decide) flX11_13 rfl dX11_row_15 ?_
  refine lv_iload_n hx hb dX11_row_18 rfl (lv_at hl 0 rfl) ?_
  refine lv_icmp_ne (tgt := 30) hx hb dX11_row_19 (by decide) (fun h_ => absurd (by decide +kernel) h_) (fun _ => ?_)
  refine lv_aload_n hx hb dX11_row_22 rfl (lv_at hl 1 rfl) ?_
  refine lv_iconst (v := 0) hx hb dX11_row_23 (by decide) ?_
  refine cvi (wr := [(fl, .inr (1, [.int 0, .int 0, .int 0, .ref fl_3, .ref fl_4, .ref fl_5, .ref fl_6, .ref fl_7])), (x_13, .inl (G.2.1, 6, .inl (fun _ => 0)))]) (As := [.int 0]) (rest := []) (b := x) (k1 := 0) (s1 := 0) F hK hP hD hS hA (k_X11_areSets l G x 0 x_0 sp stm pl sk se ch x_11 x_13 ho pl_1 pl_5 fl pe ru ho_4 ho_5 ho_6 ho_8 ho_9 ho_10 ho_11 ho_12 pe_1 pe_2 pe_3 pe_4 pe_5 pe_6 pe_7 pe_8 pe_9 pe_10) kmV_X11_areSets mlX11_224 clX11 rfl 0 rfl ⟨(Nat.le_of_ble_eq_true rfl), (Nat.le_of_ble_eq_true rfl)⟩ [0, 1, 2, 3] [4, 5] rfl rfl rfl rfl (by decide) hl.1 rfl (Nat.le_of_ble_eq_true rfl) dX11_row_24 ⟨(Nat.le_of_ble_eq_true rfl), (Nat.le_of_ble_eq_true rfl)⟩ rfl rfl (fun r2 u1 H locs hwr2 (hP : va_P G.1 vwCl [(fl, .inr (1, [.int 0, .int 0, .int 0, .ref fl_3, .ref fl_4, .ref fl_5, .ref fl_6, .ref fl_7])), (x_13, .inl (G.2.1, 6, .inl (fun _ => 0))), (x, .inr (11, [.ref x_0, .int 0, .ref sp, .ref stm, .ref pl, .ref sk, .ref se, .ref ch, .int 0, .int (-1), .long 1, .ref x_11, .int 0, .ref x_13])), (pl, .inr (4, [.ref ho, .ref pl_1, .int 0, .int (-1), .int (-1), .ref pl_5])), (ho, .inr (2, [.ref fl, .ref pe, .ref ru, .int 0, .ref ho_4, .ref ho_5, .ref ho_6, .int 0, .ref ho_8, .ref ho_9, .ref ho_10, .ref ho_11, .ref ho_12, .int 50])), (pe, .inr (3, [.int 0, .ref pe_1, .ref pe_2, .ref pe_3, .ref pe_4, .ref pe_5, .ref pe_6, .ref pe_7, .ref pe_8, .ref pe_9, .ref pe_10]))] H) (hD : va_D A [(fl, .inr (1, [.int 0, .int 0, .int 0, .ref fl_3, .ref fl_4, .ref fl_5, .ref fl_6, .ref fl_7])), (x_13, .inl (G.2.1, 6, .inl (fun _ => 0))), (x, .inr (11, [.ref x_0, .int 0, .ref sp, .ref stm, .ref pl, .ref sk, .ref se, .ref ch, .int 0, .int (-1), .long 1, .ref x_11, .int 0, .ref x_13])), (pl, .inr (4, [.ref ho, .ref pl_1, .int 0, .int (-1), .int (-1), .ref pl_5])), (ho, .inr (2, [.ref fl, .ref pe, .ref ru, .int 0, .ref ho_4, .ref ho_5, .ref ho_6, .int 0, .ref ho_8, .ref ho_9, .ref ho_10, .ref ho_11, .ref ho_12, .int 50])), (pe, .inr (3, [.int 0, .ref pe_1, .ref pe_2, .ref pe_3, .ref pe_4, .ref pe_5, .ref pe_6, .ref pe_7, .ref pe_8, .ref pe_9, .ref pe_10]))]) hS => ?_)
  subst hwr2
  refine lv_if_ne (tgt := 38) hx hb dX11_row_27 (by decide) (fun _ => ?_) (fun h_ => absurd h_ (by decide +kernel))
  refine lv_aload_n hx hb dX11_row_38 rfl (lv_at hl 1 rfl) ?_
  refine lv_iconst (v := 0) hx hb dX11_row_39 (by decide) ?_
  refine cvv (wr := [(fl, .inr (1, [.int 0, .int 0, .int 0, .ref fl_3, .ref fl_4, .ref fl_5, .ref fl_6, .ref fl_7])), (x_13, .inl (G.2.1, 6, .inl (fun _ => 0)))]) (As := [.int 0]) (rest := []) (b := x) (k1 := 0) (s1 := 0) F hK hP hD hS hA (k_X11_takeSets l G x 0 x_0 sp stm pl sk se ch x_11 x_13 ho pl_1 pl_5 fl pe ru ho_4 ho_5 ho_6 ho_8 ho_9 ho_10 ho_11 ho_12 pe_1 pe_2 pe_3 pe_4 pe_5 pe_6 pe_7 pe_8 pe_9 pe_10) kmV_X11_takeSets mlX11_227 clX11 rfl 0 rfl ⟨(Nat.le_of_ble_eq_true rfl), (Nat.le_of_ble_eq_true rfl)⟩ [2, 3, 4, 5] [0, 1] rfl rfl rfl rfl (by decide) hl.1 rfl (Nat.le_of_ble_eq_true rfl) dX11_row_40 ⟨(Nat.le_of_ble_eq_true rfl), (Nat.le_of_ble_eq_true rfl)⟩ rfl rfl (fun u3 H locs hwr4 (hP : va_P G.1 vwCl [(fl, .inr (1, [.int 0, .int 0, .int 0, .ref fl_3, .ref fl_4, .ref fl_5, .ref fl_6, .ref fl_7])), (x_13, .inl (G.2.1, 6, .inl (fun _ => 0))), (x, .inr (11, [.ref x_0, .int 0, .ref sp, .ref stm, .ref pl, .ref sk, .ref se, .ref ch, .int 0, .int (-1), .long 1, .ref x_11, .int 0, .ref x_13])), (pl, .inr (4, [.ref ho, .ref pl_1, .int 0, .int (-1), .int (-1), .ref pl_5])), (ho, .inr (2, [.ref fl, .ref pe, .ref ru, .int 0, .ref ho_4, .ref ho_5, .ref ho_6, .int 0, .ref ho_8, .ref ho_9, .ref ho_10, .ref ho_11, .ref ho_12, .int 50])), (pe, .inr (3, [.int 0, .ref pe_1, .ref pe_2, .ref pe_3, .ref pe_4, .ref pe_5, .ref pe_6, .ref pe_7, .ref pe_8, .ref pe_9, .ref pe_10]))] H) (hD : va_D A [(fl, .inr (1, [.int 0, .int 0, .int 0, .ref fl_3, .ref fl_4, .ref fl_5, .ref fl_6, .ref fl_7])), (x_13, .inl (G.2.1, 6, .inl (fun _ => 0))), (x, .inr (11, [.ref x_0, .int 0, .ref sp, .ref stm, .ref pl, .ref sk, .ref se, .ref ch, .int 0, .int (-1), .long 1, .ref x_11, .int 0, .ref x_13])), (pl, .inr (4, [.ref ho, .ref pl_1, .int 0, .int (-1), .int (-1), .ref pl_5])), (ho, .inr (2, [.ref fl, .ref pe, .ref ru, .int 0, .ref ho_4, .ref ho_5, .ref ho_6, .int 0, .ref ho_8, .ref ho_9, .ref ho_10, .ref ho_11, .ref ho_12, .int 50])), (pe, .inr (3, [.int 0, .ref pe_1, .ref pe_2, .ref pe_3, .ref pe_4, .ref pe_5, .ref pe_6, .ref pe_7, .ref pe_8, .ref pe_9, .ref pe_10]))]) hS => ?_)
  refine lv_aload_n hx hb dX11_row_43 rfl (lv_at hl 1 rfl) ?_
  refine lv_iconst (v := 0) hx hb dX11_row_44 (by decide) ?_
  refine g_put (w' := [(fl, .inr (1, [.int 0, .int 0, .int 0, .ref fl_3, .ref fl_4, .ref fl_5, .ref fl_6, .ref fl_7])), (x_13, .inl (G.2.1, 6, .inl (fun _ => 0))), (x, .inr (11, [.ref x_0, .int 0, .ref sp, .ref stm, .ref pl, .ref sk, .ref se, .ref ch, .int 0, .int (-1), .long 1, .ref x_11, .int 0, .ref x_13])), (pl, .inr (4, [.ref ho, .ref pl_1, .int 0, .int (-1), .int (-1), .ref pl_5])), (ho, .inr (2, [.ref fl, .ref pe, .ref ru, .int 0, .ref ho_4, .ref ho_5, .ref ho_6, .int 0, .ref ho_8, .ref ho_9, .ref ho_10, .ref ho_11, .ref ho_12, .int 50])), (pe, .inr (3, [.int 0, .ref pe_1, .ref pe_2, .ref pe_3, .ref pe_4, .ref pe_5, .ref pe_6, .ref pe_7, .ref pe_8, .ref pe_9, .ref pe_10]))]) F hK hP hD hS 2 rfl clX11 1 (by decide) flX11_13 rfl rfl rfl (Nat.le_of_ble_eq_true rfl) dX11_row_45 rfl (fun H locs hP hD hS => ?_)
  refine lv_iconst (v := 1) hx hb dX11_row_48 (by decide) ?_
  exact r_z F hr hlk hP hD hS () [] rfl rfl rfl dX11_row_49 (Nat.le_of_ble_eq_true rfl) (Nat.le_of_ble_eq_true rfl) (by decide)
set_option maxHeartbeats 4000000 in
set_option maxRecDepth 100000 in
theorem k_X11_day (l : Launch) (G : Gx) (x : Nat) (a : Int32) (b : Int32) (x_0 : Nat) (sp : Nat) (stm : Nat) (pl : Nat) (sk : Nat) (se : Nat) (ch : Nat) (x_11 : Nat) (x_13 : Nat) (ho : Nat) (pl_1 : Nat) (pl_5 : Nat) (fl : Nat) (pe : Nat) (ru : Nat) (ho_4 : Nat) (ho_5 : Nat) (ho_6 : Nat) (ho_8 : Nat) (ho_9 : Nat) (ho_10 : Nat) (ho_11 : Nat) (ho_12 : Nat) (pe_1 : Nat) (pe_2 : Nat) (pe_3 : Nat) (pe_4 : Nat) (pe_5 : Nat) (pe_6 : Nat) (pe_7 : Nat) (pe_8 : Nat) (pe_9 : Nat) (pe_10 : Nat) (fl_3 : Nat) (fl_4 : Nat) (fl_5 : Nat) (fl_6 : Nat) (fl_7 : Nat)  : CtI (S := Unit) l yX11_day cX11_day 3 (some .int) (rmD 3 0 0) G [.ref x, .int a, .int b] [(x, .inr (11, [.ref x_0, .int 0, .ref sp, .ref stm, .ref pl, .ref sk, .ref se, .ref ch, .int 0, .int (-1), .long 1, .ref x_11, .int 0, .ref x_13])), (pl, .inr (4, [.ref ho, .ref pl_1, .int 0, .int (-1), .int (-1), .ref pl_5])), (ho, .inr (2, [.ref fl, .ref pe, .ref ru, .int 0, .ref ho_4, .ref ho_5, .ref ho_6, .int 0, .ref ho_8, .ref ho_9, .ref ho_10, .ref ho_11, .ref ho_12, .int 50])), (pe, .inr (3, [.int 0, .ref pe_1, .ref pe_2, .ref pe_3, .ref pe_4, .ref pe_5, .ref pe_6, .ref pe_7, .ref pe_8, .ref pe_9, .ref pe_10])), (fl, .inr (1, [.int 0, .int 0, .int 0, .ref fl_3, .ref fl_4, .ref fl_5, .ref fl_6, .ref fl_7])), (ho_11, .inl (G.2.1, 5, .inl (fun _ => 0)))] (fun r _ => r = fDay a b) (fun _ => []) := by
  refine ctI_of (own := RX11) (by decide +kernel) rfl (Nat.le_of_ble_eq_true rfl) ?_
  intro p e s m below meth c A ls F hr hlk hnm hK hP hD hA hS hl
  have hx := F.1
  have hb := F.2.1
  have hown := F.2.2.2.1
  have hl : lv_has ls 3 [(0, .ref x), (1, .int a), (2, .int b)] := hl
  refine lv_iload_n hx hb dX11_day_0 rfl (lv_at hl 1 rfl) ?_
  refine csi (wr := [(x, .inr (11, [.ref x_0, .int 0, .ref sp, .ref stm, .ref pl, .ref sk, .ref se, .ref ch, .int 0, .int (-1), .long 1, .ref x_11, .int 0, .ref x_13])), (pl, .inr (4, [.ref ho, .ref pl_1, .int 0, .int (-1), .int (-1), .ref pl_5])), (ho, .inr (2, [.ref fl, .ref pe, .ref ru, .int 0, .ref ho_4, .ref ho_5, .ref ho_6, .int 0, .ref ho_8, .ref ho_9, .ref ho_10, .ref ho_11, .ref ho_12, .int 50])), (pe, .inr (3, [.int 0, .ref pe_1, .ref pe_2, .ref pe_3, .ref pe_4, .ref pe_5, .ref pe_6, .ref pe_7, .ref pe_8, .ref pe_9, .ref pe_10])), (fl, .inr (1, [.int 0, .int 0, .int 0, .ref fl_3, .ref fl_4, .ref fl_5, .ref fl_6, .ref fl_7])), (ho_11, .inl (G.2.1, 5, .inl (fun _ => 0)))]) (As := [.int a]) (rest := []) (k1 := 0) (s1 := 0) F hK hP hD hS hA (k_X11_isDay l G a) kmS_X11_isDay mlX11_230 ⟨(Nat.le_of_ble_eq_true rfl), (Nat.le_of_ble_eq_true rfl)⟩ [] [0, 1, 2, 3, 4, 5] rfl rfl rfl rfl (by decide) hl.1 rfl (Nat.le_of_ble_eq_true rfl) dX11_day_1 ⟨(Nat.le_of_ble_eq_true rfl), (Nat.le_of_ble_eq_true rfl)⟩ rfl rfl (fun r2 u1 H locs hwr2 (hP : va_P G.1 vwCl [(x, .inr (11, [.ref x_0, .int 0, .ref sp, .ref stm, .ref pl, .ref sk, .ref se, .ref ch, .int 0, .int (-1), .long 1, .ref x_11, .int 0, .ref x_13])), (pl, .inr (4, [.ref ho, .ref pl_1, .int 0, .int (-1), .int (-1), .ref pl_5])), (ho, .inr (2, [.ref fl, .ref pe, .ref ru, .int 0, .ref ho_4, .ref ho_5, .ref ho_6, .int 0, .ref ho_8, .ref ho_9, .ref ho_10, .ref ho_11, .ref ho_12, .int 50])), (pe, .inr (3, [.int 0, .ref pe_1, .ref pe_2, .ref pe_3, .ref pe_4, .ref pe_5, .ref pe_6, .ref pe_7, .ref pe_8, .ref pe_9, .ref pe_10])), (fl, .inr (1, [.int 0, .int 0, .int 0, .ref fl_3, .ref fl_4, .ref fl_5, .ref fl_6, .ref fl_7])), (ho_11, .inl (G.2.1, 5, .inl (fun _ => 0)))] H) (hD : va_D A [(x, .inr (11, [.ref x_0, .int 0, .ref sp, .ref stm, .ref pl, .ref sk, .ref se, .ref ch, .int 0, .int (-1), .long 1, .ref x_11, .int 0, .ref x_13])), (pl, .inr (4, [.ref ho, .ref pl_1, .int 0, .int (-1), .int (-1), .ref pl_5])), (ho, .inr (2, [.ref fl, .ref pe, .ref ru, .int 0, .ref ho_4, .ref ho_5, .ref ho_6, .int 0, .ref ho_8, .ref ho_9, .ref ho_10, .ref ho_11, .ref ho_12, .int 50])), (pe, .inr (3, [.int 0, .ref pe_1, .ref pe_2, .ref pe_3, .ref pe_4, .ref pe_5, .ref pe_6, .ref pe_7, .ref pe_8, .ref pe_9, .ref pe_10])), (fl, .inr (1, [.int 0, .int 0, .int 0, .ref fl_3, .ref fl_4, .ref fl_5, .ref fl_6, .ref fl_7])), (ho_11, .inl (G.2.1, 5, .inl (fun _ => 0)))]) hS => ?_)
  subst hwr2
  refine lv_if_ne (tgt := 9) hx hb dX11_day_4 (by decide) (fun c3 => ?_) (fun c3 => ?_)
  · refine lv_iload_n hx hb dX11_day_9 rfl (lv_at hl 2 rfl) ?_
    by_cases h4 : b = 0
    · subst h4
      refine lv_tableIn (off := 26) (tgt := 36) hx hb dX11_day_10 (by decide) (by decide) rfl (by decide) ?_
      refine lv_aload_n hx hb dX11_day_36 rfl (lv_at hl 0 rfl) ?_
      refine g_get F hK hP 0 rfl clX11 4 (by decide) flX11_43 rfl dX11_day_37 ?_
      refine lv_iload_n hx hb dX11_day_40 rfl (lv_at hl 1 rfl) ?_
      refine cvi (wr := [(x, .inr (11, [.ref x_0, .int 0, .ref sp, .ref stm, .ref pl, .ref sk, .ref se, .ref ch, .int 0, .int (-1), .long 1, .ref x_11, .int 0, .ref x_13])), (fl, .inr (1, [.int 0, .int 0, .int 0, .ref fl_3, .ref fl_4, .ref fl_5, .ref fl_6, .ref fl_7])), (ho_11, .inl (G.2.1, 5, .inl (fun _ => 0)))]) (As := [.int a]) (rest := []) (b := pl) (k1 := 0) (s1 := 0) F hK hP hD hS hA (k_X4_inCount l G pl a ho pl_1 pl_5 fl pe ru ho_4 ho_5 ho_6 ho_8 ho_9 ho_10 ho_11 ho_12 pe_1 pe_2 pe_3 pe_4 pe_5 pe_6 pe_7 pe_8 pe_9 pe_10) kmV_X4_inCount mlX11_233 clX4 rfl 0 rfl ⟨(Nat.le_of_ble_eq_true rfl), (Nat.le_of_ble_eq_true rfl)⟩ [1, 2, 3] [0, 4, 5] rfl rfl rfl rfl (by decide) hl.1 rfl (Nat.le_of_ble_eq_true rfl) dX11_day_41 ⟨(Nat.le_of_ble_eq_true rfl), (Nat.le_of_ble_eq_true rfl)⟩ rfl rfl (fun r6 u5 H locs hwr6 (hP : va_P G.1 vwCl [(x, .inr (11, [.ref x_0, .int 0, .ref sp, .ref stm, .ref pl, .ref sk, .ref se, .ref ch, .int 0, .int (-1), .long 1, .ref x_11, .int 0, .ref x_13])), (fl, .inr (1, [.int 0, .int 0, .int 0, .ref fl_3, .ref fl_4, .ref fl_5, .ref fl_6, .ref fl_7])), (ho_11, .inl (G.2.1, 5, .inl (fun _ => 0))), (pl, .inr (4, [.ref ho, .ref pl_1, .int 0, .int (-1), .int (-1), .ref pl_5])), (ho, .inr (2, [.ref fl, .ref pe, .ref ru, .int 0, .ref ho_4, .ref ho_5, .ref ho_6, .int 0, .ref ho_8, .ref ho_9, .ref ho_10, .ref ho_11, .ref ho_12, .int 50])), (pe, .inr (3, [.int 0, .ref pe_1, .ref pe_2, .ref pe_3, .ref pe_4, .ref pe_5, .ref pe_6, .ref pe_7, .ref pe_8, .ref pe_9, .ref pe_10]))] H) (hD : va_D A [(x, .inr (11, [.ref x_0, .int 0, .ref sp, .ref stm, .ref pl, .ref sk, .ref se, .ref ch, .int 0, .int (-1), .long 1, .ref x_11, .int 0, .ref x_13])), (fl, .inr (1, [.int 0, .int 0, .int 0, .ref fl_3, .ref fl_4, .ref fl_5, .ref fl_6, .ref fl_7])), (ho_11, .inl (G.2.1, 5, .inl (fun _ => 0))), (pl, .inr (4, [.ref ho, .ref pl_1, .int 0, .int (-1), .int (-1), .ref pl_5])), (ho, .inr (2, [.ref fl, .ref pe, .ref ru, .int 0, .ref ho_4, .ref ho_5, .ref ho_6, .int 0, .ref ho_8, .ref ho_9, .ref ho_10, .ref ho_11, .ref ho_12, .int 50])), (pe, .inr (3, [.int 0, .ref pe_1, .ref pe_2, .ref pe_3, .ref pe_4, .ref pe_5, .ref pe_6, .ref pe_7, .ref pe_8, .ref pe_9, .ref pe_10]))]) hS => ?_)
      subst hwr6
      exact r_i F hr hlk hP hD hS () [] rfl rfl (by simp [fDay, c3]) dX11_day_44 (Nat.le_of_ble_eq_true rfl) (Nat.le_of_ble_eq_true rfl)
    by_cases h7 : b = 1
    · subst h7
      refine lv_tableIn (off := 35) (tgt := 45) hx hb dX11_day_10 (by decide) (by decide) rfl (by decide) ?_
      refine lv_aload_n hx hb dX11_day_45 rfl (lv_at hl 0 rfl) ?_
      refine g_get F hK hP 0 rfl clX11 4 (by decide) flX11_43 rfl dX11_day_46 ?_
      refine lv_iload_n hx hb dX11_day_49 rfl (lv_at hl 1 rfl) ?_
      refine cvi (wr := [(x, .inr (11, [.ref x_0, .int 0, .ref sp, .ref stm, .ref pl, .ref sk, .ref se, .ref ch, .int 0, .int (-1), .long 1, .ref x_11, .int 0, .ref x_13])), (ho_11, .inl (G.2.1, 5, .inl (fun _ => 0)))]) (As := [.int a]) (rest := []) (b := pl) (k1 := 0) (s1 := 0) F hK hP hD hS hA (k_X4_standing l G pl a ho pl_1 pl_5 fl pe ru ho_4 ho_5 ho_6 ho_8 ho_9 ho_10 ho_11 ho_12 pe_1 pe_2 pe_3 pe_4 pe_5 pe_6 pe_7 pe_8 pe_9 pe_10 fl_3 fl_4 fl_5 fl_6 fl_7) kmV_X4_standing mlX11_236 clX4 rfl 0 rfl ⟨(Nat.le_of_ble_eq_true rfl), (Nat.le_of_ble_eq_true rfl)⟩ [1, 2, 3, 4] [0, 5] rfl rfl rfl rfl (by decide) hl.1 rfl (Nat.le_of_ble_eq_true rfl) dX11_day_50 ⟨(Nat.le_of_ble_eq_true rfl), (Nat.le_of_ble_eq_true rfl)⟩ rfl rfl (fun r9 u8 H locs hwr9 (hP : va_P G.1 vwCl [(x, .inr (11, [.ref x_0, .int 0, .ref sp, .ref stm, .ref pl, .ref sk, .ref se, .ref ch, .int 0, .int (-1), .long 1, .ref x_11, .int 0, .ref x_13])), (ho_11, .inl (G.2.1, 5, .inl (fun _ => 0))), (pl, .inr (4, [.ref ho, .ref pl_1, .int 0, .int (-1), .int (-1), .ref pl_5])), (ho, .inr (2, [.ref fl, .ref pe, .ref ru, .int 0, .ref ho_4, .ref ho_5, .ref ho_6, .int 0, .ref ho_8, .ref ho_9, .ref ho_10, .ref ho_11, .ref ho_12, .int 50])), (pe, .inr (3, [.int 0, .ref pe_1, .ref pe_2, .ref pe_3, .ref pe_4, .ref pe_5, .ref pe_6, .ref pe_7, .ref pe_8, .ref pe_9, .ref pe_10])), (fl, .inr (1, [.int 0, .int 0, .int 0, .ref fl_3, .ref fl_4, .ref fl_5, .ref fl_6, .ref fl_7]))] H) (hD : va_D A [(x, .inr (11, [.ref x_0, .int 0, .ref sp, .ref stm, .ref pl, .ref sk, .ref se, .ref ch, .int 0, .int (-1), .long 1, .ref x_11, .int 0, .ref x_13])), (ho_11, .inl (G.2.1, 5, .inl (fun _ => 0))), (pl, .inr (4, [.ref ho, .ref pl_1, .int 0, .int (-1), .int (-1), .ref pl_5])), (ho, .inr (2, [.ref fl, .ref pe, .ref ru, .int 0, .ref ho_4, .ref ho_5, .ref ho_6, .int 0, .ref ho_8, .ref ho_9, .ref ho_10, .ref ho_11, .ref ho_12, .int 50])), (pe, .inr (3, [.int 0, .ref pe_1, .ref pe_2, .ref pe_3, .ref pe_4, .ref pe_5, .ref pe_6, .ref pe_7, .ref pe_8, .ref pe_9, .ref pe_10])), (fl, .inr (1, [.int 0, .int 0, .int 0, .ref fl_3, .ref fl_4, .ref fl_5, .ref fl_6, .ref fl_7]))]) hS => ?_)
      subst hwr9
      exact r_i F hr hlk hP hD hS () [] rfl rfl (by simp [fDay, c3, h4]) dX11_day_53 (Nat.le_of_ble_eq_true rfl) (Nat.le_of_ble_eq_true rfl)
    by_cases h10 : b = 2
    · subst h10
      refine lv_tableIn (off := 44) (tgt := 54) hx hb dX11_day_10 (by decide) (by decide) rfl (by decide) ?_
      refine lv_aload_n hx hb dX11_day_54 rfl (lv_at hl 0 rfl) ?_
      refine g_get F hK hP 0 rfl clX11 4 (by decide) flX11_43 rfl dX11_day_55 ?_
      refine g_get F hK hP 1 rfl clX4 0 (by decide) flX11_121 rfl dX11_day_58 ?_
      refine g_get F hK hP 2 rfl clX2 11 (by decide) flX11_239 rfl dX11_day_61 ?_
      refine lv_iload_n hx hb dX11_day_64 rfl (lv_at hl 1 rfl) ?_
      refine g_iald (v := 0) F hK hP 5 rfl (isB_in c3 rfl) dX11_day_65 rfl ?_
      exact r_i F hr hlk hP hD hS () [] rfl rfl (by simp [fDay, c3, h4, h7]) dX11_day_66 (Nat.le_of_ble_eq_true rfl) (Nat.le_of_ble_eq_true rfl)
    refine lv_tableOut (tgt := 67) hx hb dX11_day_10 (by have gh4 := lv_neT h4 (a := 0) rfl; have gh7 := lv_neT h7 (a := 1) rfl; have gh10 := lv_neT h10 (a := 2) rfl; omega) (by decide) ?_
    refine lv_iconst (v := (-1)) hx hb dX11_day_67 (by decide) ?_
    exact r_i F hr hlk hP hD hS () [] rfl rfl (by simp [fDay, c3, h4, h7, h10]) dX11_day_68 (Nat.le_of_ble_eq_true rfl) (Nat.le_of_ble_eq_true rfl)
  · refine lv_iconst (v := (-1)) hx hb dX11_day_7 (by decide) ?_
    exact r_i F hr hlk hP hD hS () [] rfl rfl (by simp [fDay, c3]) dX11_day_8 (Nat.le_of_ble_eq_true rfl) (Nat.le_of_ble_eq_true rfl)
set_option maxHeartbeats 4000000 in
set_option maxRecDepth 100000 in
theorem k_X11_met (l : Launch) (G : Gx) (x : Nat) (a : Int32) (x_0 : Nat) (sp : Nat) (stm : Nat) (pl : Nat) (sk : Nat) (se : Nat) (ch : Nat) (x_11 : Nat) (x_13 : Nat) (ho : Nat) (pl_1 : Nat) (pl_5 : Nat) (fl : Nat) (pe : Nat) (ru : Nat) (ho_4 : Nat) (ho_5 : Nat) (ho_6 : Nat) (ho_8 : Nat) (ho_9 : Nat) (ho_10 : Nat) (ho_11 : Nat) (ho_12 : Nat) (pe_1 : Nat) (pe_2 : Nat) (pe_3 : Nat) (pe_4 : Nat) (pe_5 : Nat) (pe_6 : Nat) (pe_7 : Nat) (pe_8 : Nat) (pe_9 : Nat) (pe_10 : Nat) (fl_3 : Nat) (fl_4 : Nat) (fl_5 : Nat) (fl_6 : Nat) (fl_7 : Nat)  : CtI (S := Unit) l yX11_met cX11_met 2 (some .int) (rmD 2 0 0) G [.ref x, .int a] [(x, .inr (11, [.ref x_0, .int 0, .ref sp, .ref stm, .ref pl, .ref sk, .ref se, .ref ch, .int 0, .int (-1), .long 1, .ref x_11, .int 0, .ref x_13])), (pl, .inr (4, [.ref ho, .ref pl_1, .int 0, .int (-1), .int (-1), .ref pl_5])), (ho, .inr (2, [.ref fl, .ref pe, .ref ru, .int 0, .ref ho_4, .ref ho_5, .ref ho_6, .int 0, .ref ho_8, .ref ho_9, .ref ho_10, .ref ho_11, .ref ho_12, .int 50])), (pe, .inr (3, [.int 0, .ref pe_1, .ref pe_2, .ref pe_3, .ref pe_4, .ref pe_5, .ref pe_6, .ref pe_7, .ref pe_8, .ref pe_9, .ref pe_10])), (fl, .inr (1, [.int 0, .int 0, .int 0, .ref fl_3, .ref fl_4, .ref fl_5, .ref fl_6, .ref fl_7]))] (fun r _ => r = (-1)) (fun _ => []) := by
  refine ctI_of (own := RX11) (by decide +kernel) rfl (Nat.le_of_ble_eq_true rfl) ?_
  intro p e s m below meth c A ls F hr hlk hnm hK hP hD hA hS hl
  have hx := F.1
  have hb := F.2.1
  have hown := F.2.2.2.1
  have hl : lv_has ls 2 [(0, .ref x), (1, .int a)] := hl
  refine lv_iload_n hx hb dX11_met_0 rfl (lv_at hl 1 rfl) ?_
  refine lv_aload_n hx hb dX11_met_1 rfl (lv_at hl 0 rfl) ?_
  refine g_get F hK hP 0 rfl clX11 4 (by decide) flX11_43 rfl dX11_met_2 ?_
  refine g_get F hK hP 1 rfl clX4 0 (by decide) flX11_121 rfl dX11_met_5 ?_
  refine g_get F hK hP 2 rfl clX2 7 (by decide) flX11_146 rfl dX11_met_8 ?_
  refine csi (wr := [(x, .inr (11, [.ref x_0, .int 0, .ref sp, .ref stm, .ref pl, .ref sk, .ref se, .ref ch, .int 0, .int (-1), .long 1, .ref x_11, .int 0, .ref x_13])), (pl, .inr (4, [.ref ho, .ref pl_1, .int 0, .int (-1), .int (-1), .ref pl_5])), (ho, .inr (2, [.ref fl, .ref pe, .ref ru, .int 0, .ref ho_4, .ref ho_5, .ref ho_6, .int 0, .ref ho_8, .ref ho_9, .ref ho_10, .ref ho_11, .ref ho_12, .int 50])), (pe, .inr (3, [.int 0, .ref pe_1, .ref pe_2, .ref pe_3, .ref pe_4, .ref pe_5, .ref pe_6, .ref pe_7, .ref pe_8, .ref pe_9, .ref pe_10])), (fl, .inr (1, [.int 0, .int 0, .int 0, .ref fl_3, .ref fl_4, .ref fl_5, .ref fl_6, .ref fl_7]))]) (As := [.int a, .int 0]) (rest := []) (k1 := 0) (s1 := 0) F hK hP hD hS hA (k_X11_isBelow l G a 0) kmS_X11_isBelow mlX11_169 ⟨(Nat.le_of_ble_eq_true rfl), (Nat.le_of_ble_eq_true rfl)⟩ [] [0, 1, 2, 3, 4] rfl rfl rfl rfl (by decide) hl.1 rfl (Nat.le_of_ble_eq_true rfl) dX11_met_11 ⟨(Nat.le_of_ble_eq_true rfl), (Nat.le_of_ble_eq_true rfl)⟩ rfl rfl (fun r2 u1 H locs hwr2 (hP : va_P G.1 vwCl [(x, .inr (11, [.ref x_0, .int 0, .ref sp, .ref stm, .ref pl, .ref sk, .ref se, .ref ch, .int 0, .int (-1), .long 1, .ref x_11, .int 0, .ref x_13])), (pl, .inr (4, [.ref ho, .ref pl_1, .int 0, .int (-1), .int (-1), .ref pl_5])), (ho, .inr (2, [.ref fl, .ref pe, .ref ru, .int 0, .ref ho_4, .ref ho_5, .ref ho_6, .int 0, .ref ho_8, .ref ho_9, .ref ho_10, .ref ho_11, .ref ho_12, .int 50])), (pe, .inr (3, [.int 0, .ref pe_1, .ref pe_2, .ref pe_3, .ref pe_4, .ref pe_5, .ref pe_6, .ref pe_7, .ref pe_8, .ref pe_9, .ref pe_10])), (fl, .inr (1, [.int 0, .int 0, .int 0, .ref fl_3, .ref fl_4, .ref fl_5, .ref fl_6, .ref fl_7]))] H) (hD : va_D A [(x, .inr (11, [.ref x_0, .int 0, .ref sp, .ref stm, .ref pl, .ref sk, .ref se, .ref ch, .int 0, .int (-1), .long 1, .ref x_11, .int 0, .ref x_13])), (pl, .inr (4, [.ref ho, .ref pl_1, .int 0, .int (-1), .int (-1), .ref pl_5])), (ho, .inr (2, [.ref fl, .ref pe, .ref ru, .int 0, .ref ho_4, .ref ho_5, .ref ho_6, .int 0, .ref ho_8, .ref ho_9, .ref ho_10, .ref ho_11, .ref ho_12, .int 50])), (pe, .inr (3, [.int 0, .ref pe_1, .ref pe_2, .ref pe_3, .ref pe_4, .ref pe_5, .ref pe_6, .ref pe_7, .ref pe_8, .ref pe_9, .ref pe_10])), (fl, .inr (1, [.int 0, .int 0, .int 0, .ref fl_3, .ref fl_4, .ref fl_5, .ref fl_6, .ref fl_7]))]) hS => ?_)
  subst hwr2
  refine cst_i (y := 0) (isB_0 _) ?_
  refine lv_if_eq (tgt := 28) hx hb dX11_met_14 (by decide) (fun _ => ?_) (fun h_ => absurd (by decide +kernel) h_)
  refine lv_iconst (v := (-1)) hx hb dX11_met_28 (by decide) ?_
  exact r_i F hr hlk hP hD hS () [] rfl rfl rfl dX11_met_29 (Nat.le_of_ble_eq_true rfl) (Nat.le_of_ble_eq_true rfl)
set_option maxHeartbeats 4000000 in
set_option maxRecDepth 100000 in
theorem k_X11_judge (l : Launch) (G : Gx) (x : Nat) (a : Int32) (x_0 : Nat) (sp : Nat) (stm : Nat) (pl : Nat) (sk : Nat) (se : Nat) (ch : Nat) (x_11 : Nat) (x_13 : Nat) (ho : Nat) (pl_1 : Nat) (pl_5 : Nat) (fl : Nat) (pe : Nat) (ru : Nat) (ho_4 : Nat) (ho_5 : Nat) (ho_6 : Nat) (ho_8 : Nat) (ho_9 : Nat) (ho_10 : Nat) (ho_11 : Nat) (ho_12 : Nat) (pe_1 : Nat) (pe_2 : Nat) (pe_3 : Nat) (pe_4 : Nat) (pe_5 : Nat) (pe_6 : Nat) (pe_7 : Nat) (pe_8 : Nat) (pe_9 : Nat) (pe_10 : Nat) (fl_3 : Nat) (fl_4 : Nat) (fl_5 : Nat) (fl_6 : Nat) (fl_7 : Nat)  : CtI (S := Unit) l yX11_judge cX11_judge 2 (some .int) (rmD 5 0 0) G [.ref x, .int a] [(x, .inr (11, [.ref x_0, .int 0, .ref sp, .ref stm, .ref pl, .ref sk, .ref se, .ref ch, .int 0, .int (-1), .long 1, .ref x_11, .int 0, .ref x_13])), (pl, .inr (4, [.ref ho, .ref pl_1, .int 0, .int (-1), .int (-1), .ref pl_5])), (ho, .inr (2, [.ref fl, .ref pe, .ref ru, .int 0, .ref ho_4, .ref ho_5, .ref ho_6, .int 0, .ref ho_8, .ref ho_9, .ref ho_10, .ref ho_11, .ref ho_12, .int 50])), (pe, .inr (3, [.int 0, .ref pe_1, .ref pe_2, .ref pe_3, .ref pe_4, .ref pe_5, .ref pe_6, .ref pe_7, .ref pe_8, .ref pe_9, .ref pe_10])), (fl, .inr (1, [.int 0, .int 0, .int 0, .ref fl_3, .ref fl_4, .ref fl_5, .ref fl_6, .ref fl_7]))] (fun r _ => r = fJudge a) (fun _ => []) := by
  refine ctI_of (own := RX11) (by decide +kernel) rfl (Nat.le_of_ble_eq_true rfl) ?_
  intro p e s m below meth c A ls F hr hlk hnm hK hP hD hA hS hl
  have hx := F.1
  have hb := F.2.1
  have hown := F.2.2.2.1
  have hl : lv_has ls 2 [(0, .ref x), (1, .int a)] := hl
  refine lv_aload_n hx hb dX11_judge_0 rfl (lv_at hl 0 rfl) ?_
  refine g_get F hK hP 0 rfl clX11 4 (by decide) flX11_43 rfl dX11_judge_1 ?_
  refine cvv (wr := [(x, .inr (11, [.ref x_0, .int 0, .ref sp, .ref stm, .ref pl, .ref sk, .ref se, .ref ch, .int 0, .int (-1), .long 1, .ref x_11, .int 0, .ref x_13]))]) (As := []) (rest := []) (b := pl) (k1 := 0) (s1 := 0) F hK hP hD hS hA (k_X4_examine l G pl ho pl_1 pl_5 fl pe ru ho_4 ho_5 ho_6 ho_8 ho_9 ho_10 ho_11 ho_12 pe_1 pe_2 pe_3 pe_4 pe_5 pe_6 pe_7 pe_8 pe_9 pe_10 fl_3 fl_4 fl_5 fl_6 fl_7) kmV_X4_examine mlX11_245 clX4 rfl 0 rfl ⟨(Nat.le_of_ble_eq_true rfl), (Nat.le_of_ble_eq_true rfl)⟩ [1, 2, 3, 4] [0] rfl rfl rfl rfl (by decide) hl.1 rfl (Nat.le_of_ble_eq_true rfl) dX11_judge_4 ⟨(Nat.le_of_ble_eq_true rfl), (Nat.le_of_ble_eq_true rfl)⟩ rfl rfl (fun u1 H locs hwr2 (hP : va_P G.1 vwCl [(x, .inr (11, [.ref x_0, .int 0, .ref sp, .ref stm, .ref pl, .ref sk, .ref se, .ref ch, .int 0, .int (-1), .long 1, .ref x_11, .int 0, .ref x_13])), (pl, .inr (4, [.ref ho, .ref pl_1, .int 0, .int (-1), .int (-1), .ref pl_5])), (ho, .inr (2, [.ref fl, .ref pe, .ref ru, .int 0, .ref ho_4, .ref ho_5, .ref ho_6, .int 0, .ref ho_8, .ref ho_9, .ref ho_10, .ref ho_11, .ref ho_12, .int 50])), (pe, .inr (3, [.int 0, .ref pe_1, .ref pe_2, .ref pe_3, .ref pe_4, .ref pe_5, .ref pe_6, .ref pe_7, .ref pe_8, .ref pe_9, .ref pe_10])), (fl, .inr (1, [.int 0, .int 0, .int 0, .ref fl_3, .ref fl_4, .ref fl_5, .ref fl_6, .ref fl_7]))] H) (hD : va_D A [(x, .inr (11, [.ref x_0, .int 0, .ref sp, .ref stm, .ref pl, .ref sk, .ref se, .ref ch, .int 0, .int (-1), .long 1, .ref x_11, .int 0, .ref x_13])), (pl, .inr (4, [.ref ho, .ref pl_1, .int 0, .int (-1), .int (-1), .ref pl_5])), (ho, .inr (2, [.ref fl, .ref pe, .ref ru, .int 0, .ref ho_4, .ref ho_5, .ref ho_6, .int 0, .ref ho_8, .ref ho_9, .ref ho_10, .ref ho_11, .ref ho_12, .int 50])), (pe, .inr (3, [.int 0, .ref pe_1, .ref pe_2, .ref pe_3, .ref pe_4, .ref pe_5, .ref pe_6, .ref pe_7, .ref pe_8, .ref pe_9, .ref pe_10])), (fl, .inr (1, [.int 0, .int 0, .int 0, .ref fl_3, .ref fl_4, .ref fl_5, .ref fl_6, .ref fl_7]))]) hS => ?_)
  refine lv_iload_n hx hb dX11_judge_7 rfl (lv_at hl 1 rfl) ?_
  by_cases h3 : a = 0
  · subst h3
    refine lv_tableIn (off := 28) (tgt := 36) hx hb dX11_judge_8 (by decide) (by decide) rfl (by decide) ?_
    refine lv_aload_n hx hb dX11_judge_36 rfl (lv_at hl 0 rfl) ?_
    refine g_get F hK hP 0 rfl clX11 4 (by decide) flX11_43 rfl dX11_judge_37 ?_
    refine g_get F hK hP 1 rfl clX4 2 (by decide) flX11_248 rfl dX11_judge_40 ?_
    exact r_i F hr hlk hP hD hS () [] rfl rfl (by simp [fJudge]) dX11_judge_43 (Nat.le_of_ble_eq_true rfl) (Nat.le_of_ble_eq_true rfl)
  by_cases h4 : a = 1
  · subst h4
    refine lv_tableIn (off := 36) (tgt := 44) hx hb dX11_judge_8 (by decide) (by decide) rfl (by decide) ?_
    refine lv_aload_n hx hb dX11_judge_44 rfl (lv_at hl 0 rfl) ?_
    refine g_get F hK hP 0 rfl clX11 4 (by decide) flX11_43 rfl dX11_judge_45 ?_
    refine g_get F hK hP 1 rfl clX4 3 (by decide) flX11_251 rfl dX11_judge_48 ?_
    exact r_i F hr hlk hP hD hS () [] rfl rfl (by simp [fJudge, h3]) dX11_judge_51 (Nat.le_of_ble_eq_true rfl) (Nat.le_of_ble_eq_true rfl)
  by_cases h5 : a = 2
  · subst h5
    refine lv_tableIn (off := 44) (tgt := 52) hx hb dX11_judge_8 (by decide) (by decide) rfl (by decide) ?_
    refine lv_aload_n hx hb dX11_judge_52 rfl (lv_at hl 0 rfl) ?_
    refine g_get F hK hP 0 rfl clX11 4 (by decide) flX11_43 rfl dX11_judge_53 ?_
    refine g_get F hK hP 1 rfl clX4 4 (by decide) flX11_254 rfl dX11_judge_56 ?_
    exact r_i F hr hlk hP hD hS () [] rfl rfl (by simp [fJudge, h3, h4]) dX11_judge_59 (Nat.le_of_ble_eq_true rfl) (Nat.le_of_ble_eq_true rfl)
  refine lv_tableOut (tgt := 60) hx hb dX11_judge_8 (by have gh3 := lv_neT h3 (a := 0) rfl; have gh4 := lv_neT h4 (a := 1) rfl; have gh5 := lv_neT h5 (a := 2) rfl; omega) (by decide) ?_
  refine lv_iconst (v := (-1)) hx hb dX11_judge_60 (by decide) ?_
  exact r_i F hr hlk hP hD hS () [] rfl rfl (by simp [fJudge, h3, h4, h5]) dX11_judge_61 (Nat.le_of_ble_eq_true rfl) (Nat.le_of_ble_eq_true rfl)
set_option maxHeartbeats 4000000 in
set_option maxRecDepth 100000 in
theorem k_X11_worth (l : Launch) (G : Gx) (x : Nat) (x_0 : Nat) (sp : Nat) (stm : Nat) (pl : Nat) (sk : Nat) (se : Nat) (ch : Nat) (x_11 : Nat) (x_13 : Nat) (ho : Nat) (pl_1 : Nat) (pl_5 : Nat) (fl : Nat) (pe : Nat) (ru : Nat) (ho_4 : Nat) (ho_5 : Nat) (ho_6 : Nat) (ho_8 : Nat) (ho_9 : Nat) (ho_10 : Nat) (ho_11 : Nat) (ho_12 : Nat) (pe_1 : Nat) (pe_2 : Nat) (pe_3 : Nat) (pe_4 : Nat) (pe_5 : Nat) (pe_6 : Nat) (pe_7 : Nat) (pe_8 : Nat) (pe_9 : Nat) (pe_10 : Nat) (fl_3 : Nat) (fl_4 : Nat) (fl_5 : Nat) (fl_6 : Nat) (fl_7 : Nat)  : CtI (S := Unit) l yX11_worth cX11_worth 1 (some .int) (rmD 3 0 0) G [.ref x] [(x, .inr (11, [.ref x_0, .int 0, .ref sp, .ref stm, .ref pl, .ref sk, .ref se, .ref ch, .int 0, .int (-1), .long 1, .ref x_11, .int 0, .ref x_13])), (pl, .inr (4, [.ref ho, .ref pl_1, .int 0, .int (-1), .int (-1), .ref pl_5])), (ho, .inr (2, [.ref fl, .ref pe, .ref ru, .int 0, .ref ho_4, .ref ho_5, .ref ho_6, .int 0, .ref ho_8, .ref ho_9, .ref ho_10, .ref ho_11, .ref ho_12, .int 50])), (pe, .inr (3, [.int 0, .ref pe_1, .ref pe_2, .ref pe_3, .ref pe_4, .ref pe_5, .ref pe_6, .ref pe_7, .ref pe_8, .ref pe_9, .ref pe_10])), (fl, .inr (1, [.int 0, .int 0, .int 0, .ref fl_3, .ref fl_4, .ref fl_5, .ref fl_6, .ref fl_7]))] (fun r _ => r = 0) (fun _ => []) := by
  refine ctI_of (own := RX11) (by decide +kernel) rfl (Nat.le_of_ble_eq_true rfl) ?_
  intro p e s m below meth c A ls F hr hlk hnm hK hP hD hA hS hl
  have hx := F.1
  have hb := F.2.1
  have hown := F.2.2.2.1
  have hl : lv_has ls 1 [(0, .ref x)] := hl
  refine lv_aload_n hx hb dX11_worth_0 rfl (lv_at hl 0 rfl) ?_
  refine g_get F hK hP 0 rfl clX11 4 (by decide) flX11_43 rfl dX11_worth_1 ?_
  refine cvi (wr := [(x, .inr (11, [.ref x_0, .int 0, .ref sp, .ref stm, .ref pl, .ref sk, .ref se, .ref ch, .int 0, .int (-1), .long 1, .ref x_11, .int 0, .ref x_13])), (fl, .inr (1, [.int 0, .int 0, .int 0, .ref fl_3, .ref fl_4, .ref fl_5, .ref fl_6, .ref fl_7]))]) (As := []) (rest := []) (b := pl) (k1 := 0) (s1 := 0) F hK hP hD hS hA (k_X4_total l G pl ho pl_1 pl_5 fl pe ru ho_4 ho_5 ho_6 ho_8 ho_9 ho_10 ho_11 ho_12 pe_1 pe_2 pe_3 pe_4 pe_5 pe_6 pe_7 pe_8 pe_9 pe_10) kmV_X4_total mlX11_257 clX4 rfl 0 rfl ⟨(Nat.le_of_ble_eq_true rfl), (Nat.le_of_ble_eq_true rfl)⟩ [1, 2, 3] [0, 4] rfl rfl rfl rfl (by decide) hl.1 rfl (Nat.le_of_ble_eq_true rfl) dX11_worth_4 ⟨(Nat.le_of_ble_eq_true rfl), (Nat.le_of_ble_eq_true rfl)⟩ rfl rfl (fun r2 u1 H locs hwr2 (hP : va_P G.1 vwCl [(x, .inr (11, [.ref x_0, .int 0, .ref sp, .ref stm, .ref pl, .ref sk, .ref se, .ref ch, .int 0, .int (-1), .long 1, .ref x_11, .int 0, .ref x_13])), (fl, .inr (1, [.int 0, .int 0, .int 0, .ref fl_3, .ref fl_4, .ref fl_5, .ref fl_6, .ref fl_7])), (pl, .inr (4, [.ref ho, .ref pl_1, .int 0, .int (-1), .int (-1), .ref pl_5])), (ho, .inr (2, [.ref fl, .ref pe, .ref ru, .int 0, .ref ho_4, .ref ho_5, .ref ho_6, .int 0, .ref ho_8, .ref ho_9, .ref ho_10, .ref ho_11, .ref ho_12, .int 50])), (pe, .inr (3, [.int 0, .ref pe_1, .ref pe_2, .ref pe_3, .ref pe_4, .ref pe_5, .ref pe_6, .ref pe_7, .ref pe_8, .ref pe_9, .ref pe_10]))] H) (hD : va_D A [(x, .inr (11, [.ref x_0, .int 0, .ref sp, .ref stm, .ref pl, .ref sk, .ref se, .ref ch, .int 0, .int (-1), .long 1, .ref x_11, .int 0, .ref x_13])), (fl, .inr (1, [.int 0, .int 0, .int 0, .ref fl_3, .ref fl_4, .ref fl_5, .ref fl_6, .ref fl_7])), (pl, .inr (4, [.ref ho, .ref pl_1, .int 0, .int (-1), .int (-1), .ref pl_5])), (ho, .inr (2, [.ref fl, .ref pe, .ref ru, .int 0, .ref ho_4, .ref ho_5, .ref ho_6, .int 0, .ref ho_8, .ref ho_9, .ref ho_10, .ref ho_11, .ref ho_12, .int 50])), (pe, .inr (3, [.int 0, .ref pe_1, .ref pe_2, .ref pe_3, .ref pe_4, .ref pe_5, .ref pe_6, .ref pe_7, .ref pe_8, .ref pe_9, .ref pe_10]))]) hS => ?_)
  subst hwr2
  exact r_i F hr hlk hP hD hS () [] rfl rfl rfl dX11_worth_7 (Nat.le_of_ble_eq_true rfl) (Nat.le_of_ble_eq_true rfl)
set_option maxHeartbeats 4000000 in
set_option maxRecDepth 100000 in
theorem k_X11_spent (l : Launch) (G : Gx) (x : Nat) (x_0 : Nat) (sp : Nat) (stm : Nat) (pl : Nat) (sk : Nat) (se : Nat) (ch : Nat) (x_11 : Nat) (x_13 : Nat) (sk_2 : Nat) (sk_3 : Nat) (sk_4 : Nat)  : CtI (S := Unit) l yX11_spent cX11_spent 1 (some .int) (rmD 1 0 0) G [.ref x] [(x, .inr (11, [.ref x_0, .int 0, .ref sp, .ref stm, .ref pl, .ref sk, .ref se, .ref ch, .int 0, .int (-1), .long 1, .ref x_11, .int 0, .ref x_13])), (sk, .inr (9, [.ref pl, .int 0, .ref sk_2, .ref sk_3, .ref sk_4]))] (fun r _ => r = 0) (fun _ => []) := by
  refine ctI_of (own := RX11) (by decide +kernel) rfl (Nat.le_of_ble_eq_true rfl) ?_
  intro p e s m below meth c A ls F hr hlk hnm hK hP hD hA hS hl
  have hx := F.1
  have hb := F.2.1
  have hown := F.2.2.2.1
  have hl : lv_has ls 1 [(0, .ref x)] := hl
  refine lv_aload_n hx hb dX11_spent_0 rfl (lv_at hl 0 rfl) ?_
  refine g_get F hK hP 0 rfl clX11 5 (by decide) flX11_52 rfl dX11_spent_1 ?_
  refine g_get F hK hP 1 rfl clX9 1 (by decide) flX11_266 rfl dX11_spent_4 ?_
  exact r_i F hr hlk hP hD hS () [] rfl rfl rfl dX11_spent_7 (Nat.le_of_ble_eq_true rfl) (Nat.le_of_ble_eq_true rfl)
set_option maxHeartbeats 4000000 in
set_option maxRecDepth 100000 in
theorem k_X11_both (l : Launch) (G : Gx) (x : Nat) (a : Int32) (b : Int32) (x_0 : Nat) (sp : Nat) (stm : Nat) (pl : Nat) (sk : Nat) (se : Nat) (ch : Nat) (x_11 : Nat) (x_13 : Nat) (ho : Nat) (pl_1 : Nat) (pl_5 : Nat) (fl : Nat) (pe : Nat) (ru : Nat) (ho_4 : Nat) (ho_5 : Nat) (ho_6 : Nat) (ho_8 : Nat) (ho_9 : Nat) (ho_10 : Nat) (ho_11 : Nat) (ho_12 : Nat) (pe_1 : Nat) (pe_2 : Nat) (pe_3 : Nat) (pe_4 : Nat) (pe_5 : Nat) (pe_6 : Nat) (pe_7 : Nat) (pe_8 : Nat) (pe_9 : Nat) (pe_10 : Nat) (fl_3 : Nat) (fl_4 : Nat) (fl_5 : Nat) (fl_6 : Nat) (fl_7 : Nat)  : CtI (S := Unit) l yX11_both cX11_both 3 (some .int) (rmD 4 0 0) G [.ref x, .int a, .int b] [(x, .inr (11, [.ref x_0, .int 0, .ref sp, .ref stm, .ref pl, .ref sk, .ref se, .ref ch, .int 0, .int (-1), .long 1, .ref x_11, .int 0, .ref x_13])), (pl, .inr (4, [.ref ho, .ref pl_1, .int 0, .int (-1), .int (-1), .ref pl_5])), (ho, .inr (2, [.ref fl, .ref pe, .ref ru, .int 0, .ref ho_4, .ref ho_5, .ref ho_6, .int 0, .ref ho_8, .ref ho_9, .ref ho_10, .ref ho_11, .ref ho_12, .int 50])), (pe, .inr (3, [.int 0, .ref pe_1, .ref pe_2, .ref pe_3, .ref pe_4, .ref pe_5, .ref pe_6, .ref pe_7, .ref pe_8, .ref pe_9, .ref pe_10])), (fl, .inr (1, [.int 0, .int 0, .int 0, .ref fl_3, .ref fl_4, .ref fl_5, .ref fl_6, .ref fl_7])), (x_13, .inl (G.2.1, 6, .inl (fun _ => 0)))] (fun r _ => r = (-1000000000)) (fun _ => []) := by
  refine ctI_of (own := RX11) (by decide +kernel) rfl (Nat.le_of_ble_eq_true rfl) ?_
  intro p e s m below meth c A ls F hr hlk hnm hK hP hD hA hS hl
  have hx := F.1
  have hb := F.2.1
  have hown := F.2.2.2.1
  have hl : lv_has ls 3 [(0, .ref x), (1, .int a), (2, .int b)] := hl
  refine lv_aload_n hx hb dX11_both_0 rfl (lv_at hl 0 rfl) ?_
  refine lv_iload_n hx hb dX11_both_1 rfl (lv_at hl 1 rfl) ?_
  refine lv_iload_n hx hb dX11_both_2 rfl (lv_at hl 2 rfl) ?_
  refine cvi (wr := [(fl, .inr (1, [.int 0, .int 0, .int 0, .ref fl_3, .ref fl_4, .ref fl_5, .ref fl_6, .ref fl_7])), (x_13, .inl (G.2.1, 6, .inl (fun _ => 0)))]) (As := [.int a, .int b]) (rest := []) (b := x) (k1 := 0) (s1 := 0) F hK hP hD hS hA (k_X11_areTwo l G x a b x_0 sp stm pl sk se ch x_11 x_13 ho pl_1 pl_5 fl pe ru ho_4 ho_5 ho_6 ho_8 ho_9 ho_10 ho_11 ho_12 pe_1 pe_2 pe_3 pe_4 pe_5 pe_6 pe_7 pe_8 pe_9 pe_10) kmV_X11_areTwo mlX11_278 clX11 rfl 0 rfl ⟨(Nat.le_of_ble_eq_true rfl), (Nat.le_of_ble_eq_true rfl)⟩ [0, 1, 2, 3] [4, 5] rfl rfl rfl rfl (by decide) hl.1 rfl (Nat.le_of_ble_eq_true rfl) dX11_both_3 ⟨(Nat.le_of_ble_eq_true rfl), (Nat.le_of_ble_eq_true rfl)⟩ rfl rfl (fun r2 u1 H locs hwr2 (hP : va_P G.1 vwCl [(fl, .inr (1, [.int 0, .int 0, .int 0, .ref fl_3, .ref fl_4, .ref fl_5, .ref fl_6, .ref fl_7])), (x_13, .inl (G.2.1, 6, .inl (fun _ => 0))), (x, .inr (11, [.ref x_0, .int 0, .ref sp, .ref stm, .ref pl, .ref sk, .ref se, .ref ch, .int 0, .int (-1), .long 1, .ref x_11, .int 0, .ref x_13])), (pl, .inr (4, [.ref ho, .ref pl_1, .int 0, .int (-1), .int (-1), .ref pl_5])), (ho, .inr (2, [.ref fl, .ref pe, .ref ru, .int 0, .ref ho_4, .ref ho_5, .ref ho_6, .int 0, .ref ho_8, .ref ho_9, .ref ho_10, .ref ho_11, .ref ho_12, .int 50])), (pe, .inr (3, [.int 0, .ref pe_1, .ref pe_2, .ref pe_3, .ref pe_4, .ref pe_5, .ref pe_6, .ref pe_7, .ref pe_8, .ref pe_9, .ref pe_10]))] H) (hD : va_D A [(fl, .inr (1, [.int 0, .int 0, .int 0, .ref fl_3, .ref fl_4, .ref fl_5, .ref fl_6, .ref fl_7])), (x_13, .inl (G.2.1, 6, .inl (fun _ => 0))), (x, .inr (11, [.ref x_0, .int 0, .ref sp, .ref stm, .ref pl, .ref sk, .ref se, .ref ch, .int 0, .int (-1), .long 1, .ref x_11, .int 0, .ref x_13])), (pl, .inr (4, [.ref ho, .ref pl_1, .int 0, .int (-1), .int (-1), .ref pl_5])), (ho, .inr (2, [.ref fl, .ref pe, .ref ru, .int 0, .ref ho_4, .ref ho_5, .ref ho_6, .int 0, .ref ho_8, .ref ho_9, .ref ho_10, .ref ho_11, .ref ho_12, .int 50])), (pe, .inr (3, [.int 0, .ref pe_1, .ref pe_2, .ref pe_3, .ref pe_4, .ref pe_5, .ref pe_6, .ref pe_7, .ref pe_8, .ref pe_9, .ref pe_10]))]) hS => ?_)
  subst hwr2
  refine lv_if_ne (tgt := 19) hx hb dX11_both_6 (by decide) (fun h_ => absurd (by decide +kernel) h_) (fun _ => ?_)
  refine lv_aload_n hx hb dX11_both_9 rfl (lv_at hl 0 rfl) ?_
  refine lv_iconst (v := 3) hx hb dX11_both_10 (by decide) ?_
  refine cvi (wr := [(fl, .inr (1, [.int 0, .int 0, .int 0, .ref fl_3, .ref fl_4, .ref fl_5, .ref fl_6, .ref fl_7])), (pl, .inr (4, [.ref ho, .ref pl_1, .int 0, .int (-1), .int (-1), .ref pl_5])), (ho, .inr (2, [.ref fl, .ref pe, .ref ru, .int 0, .ref ho_4, .ref ho_5, .ref ho_6, .int 0, .ref ho_8, .ref ho_9, .ref ho_10, .ref ho_11, .ref ho_12, .int 50])), (pe, .inr (3, [.int 0, .ref pe_1, .ref pe_2, .ref pe_3, .ref pe_4, .ref pe_5, .ref pe_6, .ref pe_7, .ref pe_8, .ref pe_9, .ref pe_10]))]) (As := [.int 3]) (rest := []) (b := x) (k1 := 0) (s1 := 0) F hK hP hD hS hA (k_X11_refuse l G x 3 x_0 sp stm pl sk se ch x_11 x_13 (vin (by decide +kernel))) kmV_X11_refuse mlX11_89 clX11 rfl 0 rfl ⟨(Nat.le_of_ble_eq_true rfl), (Nat.le_of_ble_eq_true rfl)⟩ [2, 1] [0, 3, 4, 5] rfl rfl rfl rfl (by decide) hl.1 rfl (Nat.le_of_ble_eq_true rfl) dX11_both_11 ⟨(Nat.le_of_ble_eq_true rfl), (Nat.le_of_ble_eq_true rfl)⟩ rfl rfl (fun r4 u3 H locs hwr4 (hP : va_P G.1 vwCl [(fl, .inr (1, [.int 0, .int 0, .int 0, .ref fl_3, .ref fl_4, .ref fl_5, .ref fl_6, .ref fl_7])), (pl, .inr (4, [.ref ho, .ref pl_1, .int 0, .int (-1), .int (-1), .ref pl_5])), (ho, .inr (2, [.ref fl, .ref pe, .ref ru, .int 0, .ref ho_4, .ref ho_5, .ref ho_6, .int 0, .ref ho_8, .ref ho_9, .ref ho_10, .ref ho_11, .ref ho_12, .int 50])), (pe, .inr (3, [.int 0, .ref pe_1, .ref pe_2, .ref pe_3, .ref pe_4, .ref pe_5, .ref pe_6, .ref pe_7, .ref pe_8, .ref pe_9, .ref pe_10])), (x, .inr (11, [.ref x_0, .int 0, .ref sp, .ref stm, .ref pl, .ref sk, .ref se, .ref ch, .int 0, .int (-1), .long 1, .ref x_11, .int 0, .ref x_13]))] H) (hD : va_D A [(fl, .inr (1, [.int 0, .int 0, .int 0, .ref fl_3, .ref fl_4, .ref fl_5, .ref fl_6, .ref fl_7])), (pl, .inr (4, [.ref ho, .ref pl_1, .int 0, .int (-1), .int (-1), .ref pl_5])), (ho, .inr (2, [.ref fl, .ref pe, .ref ru, .int 0, .ref ho_4, .ref ho_5, .ref ho_6, .int 0, .ref ho_8, .ref ho_9, .ref ho_10, .ref ho_11, .ref ho_12, .int 50])), (pe, .inr (3, [.int 0, .ref pe_1, .ref pe_2, .ref pe_3, .ref pe_4, .ref pe_5, .ref pe_6, .ref pe_7, .ref pe_8, .ref pe_9, .ref pe_10])), (x, .inr (11, [.ref x_0, .int 0, .ref sp, .ref stm, .ref pl, .ref sk, .ref se, .ref ch, .int 0, .int (-1), .long 1, .ref x_11, .int 0, .ref x_13]))]) hS => ?_)
  subst hwr4
  refine lv_pop hx hb dX11_both_14 rfl ?_
  refine lv_ldcw hx hb hown (F.2.2.2.2 _ cnX11_281) dX11_both_15 ?_
  exact r_i F hr hlk hP hD hS () [] rfl rfl rfl dX11_both_18 (Nat.le_of_ble_eq_true rfl) (Nat.le_of_ble_eq_true rfl)
set_option maxHeartbeats 4000000 in
set_option maxRecDepth 100000 in
theorem k_X11_trade (l : Launch) (G : Gx) (x : Nat) (a : Int32) (b : Int32) (x_0 : Nat) (sp : Nat) (stm : Nat) (pl : Nat) (sk : Nat) (se : Nat) (ch : Nat) (x_11 : Nat) (x_13 : Nat) (ho : Nat) (pl_1 : Nat) (pl_5 : Nat) (fl : Nat) (pe : Nat) (ru : Nat) (ho_4 : Nat) (ho_5 : Nat) (ho_6 : Nat) (ho_8 : Nat) (ho_9 : Nat) (ho_10 : Nat) (ho_11 : Nat) (ho_12 : Nat) (pe_1 : Nat) (pe_2 : Nat) (pe_3 : Nat) (pe_4 : Nat) (pe_5 : Nat) (pe_6 : Nat) (pe_7 : Nat) (pe_8 : Nat) (pe_9 : Nat) (pe_10 : Nat) (fl_3 : Nat) (fl_4 : Nat) (fl_5 : Nat) (fl_6 : Nat) (fl_7 : Nat)  : CtI (S := Unit) l yX11_trade cX11_trade 3 (some .int) (rmD 4 0 0) G [.ref x, .int a, .int b] [(x, .inr (11, [.ref x_0, .int 0, .ref sp, .ref stm, .ref pl, .ref sk, .ref se, .ref ch, .int 0, .int (-1), .long 1, .ref x_11, .int 0, .ref x_13])), (pl, .inr (4, [.ref ho, .ref pl_1, .int 0, .int (-1), .int (-1), .ref pl_5])), (ho, .inr (2, [.ref fl, .ref pe, .ref ru, .int 0, .ref ho_4, .ref ho_5, .ref ho_6, .int 0, .ref ho_8, .ref ho_9, .ref ho_10, .ref ho_11, .ref ho_12, .int 50])), (pe, .inr (3, [.int 0, .ref pe_1, .ref pe_2, .ref pe_3, .ref pe_4, .ref pe_5, .ref pe_6, .ref pe_7, .ref pe_8, .ref pe_9, .ref pe_10])), (fl, .inr (1, [.int 0, .int 0, .int 0, .ref fl_3, .ref fl_4, .ref fl_5, .ref fl_6, .ref fl_7]))] (fun r _ => r = (-1000000000)) (fun _ => []) := by
  refine ctI_of (own := RX11) (by decide +kernel) rfl (Nat.le_of_ble_eq_true rfl) ?_
  intro p e s m below meth c A ls F hr hlk hnm hK hP hD hA hS hl
  have hx := F.1
  have hb := F.2.1
  have hown := F.2.2.2.1
  have hl : lv_has ls 3 [(0, .ref x), (1, .int a), (2, .int b)] := hl
  refine lv_aload_n hx hb dX11_trade_0 rfl (lv_at hl 0 rfl) ?_
  refine lv_iload_n hx hb dX11_trade_1 rfl (lv_at hl 1 rfl) ?_
  refine lv_iload_n hx hb dX11_trade_2 rfl (lv_at hl 2 rfl) ?_
  refine cvi (wr := [(fl, .inr (1, [.int 0, .int 0, .int 0, .ref fl_3, .ref fl_4, .ref fl_5, .ref fl_6, .ref fl_7]))]) (As := [.int a, .int b]) (rest := []) (b := x) (k1 := 0) (s1 := 0) F hK hP hD hS hA (k_X11_areTwo l G x a b x_0 sp stm pl sk se ch x_11 x_13 ho pl_1 pl_5 fl pe ru ho_4 ho_5 ho_6 ho_8 ho_9 ho_10 ho_11 ho_12 pe_1 pe_2 pe_3 pe_4 pe_5 pe_6 pe_7 pe_8 pe_9 pe_10) kmV_X11_areTwo mlX11_278 clX11 rfl 0 rfl ⟨(Nat.le_of_ble_eq_true rfl), (Nat.le_of_ble_eq_true rfl)⟩ [0, 1, 2, 3] [4] rfl rfl rfl rfl (by decide) hl.1 rfl (Nat.le_of_ble_eq_true rfl) dX11_trade_3 ⟨(Nat.le_of_ble_eq_true rfl), (Nat.le_of_ble_eq_true rfl)⟩ rfl rfl (fun r2 u1 H locs hwr2 (hP : va_P G.1 vwCl [(fl, .inr (1, [.int 0, .int 0, .int 0, .ref fl_3, .ref fl_4, .ref fl_5, .ref fl_6, .ref fl_7])), (x, .inr (11, [.ref x_0, .int 0, .ref sp, .ref stm, .ref pl, .ref sk, .ref se, .ref ch, .int 0, .int (-1), .long 1, .ref x_11, .int 0, .ref x_13])), (pl, .inr (4, [.ref ho, .ref pl_1, .int 0, .int (-1), .int (-1), .ref pl_5])), (ho, .inr (2, [.ref fl, .ref pe, .ref ru, .int 0, .ref ho_4, .ref ho_5, .ref ho_6, .int 0, .ref ho_8, .ref ho_9, .ref ho_10, .ref ho_11, .ref ho_12, .int 50])), (pe, .inr (3, [.int 0, .ref pe_1, .ref pe_2, .ref pe_3, .ref pe_4, .ref pe_5, .ref pe_6, .ref pe_7, .ref pe_8, .ref pe_9, .ref pe_10]))] H) (hD : va_D A [(fl, .inr (1, [.int 0, .int 0, .int 0, .ref fl_3, .ref fl_4, .ref fl_5, .ref fl_6, .ref fl_7])), (x, .inr (11, [.ref x_0, .int 0, .ref sp, .ref stm, .ref pl, .ref sk, .ref se, .ref ch, .int 0, .int (-1), .long 1, .ref x_11, .int 0, .ref x_13])), (pl, .inr (4, [.ref ho, .ref pl_1, .int 0, .int (-1), .int (-1), .ref pl_5])), (ho, .inr (2, [.ref fl, .ref pe, .ref ru, .int 0, .ref ho_4, .ref ho_5, .ref ho_6, .int 0, .ref ho_8, .ref ho_9, .ref ho_10, .ref ho_11, .ref ho_12, .int 50])), (pe, .inr (3, [.int 0, .ref pe_1, .ref pe_2, .ref pe_3, .ref pe_4, .ref pe_5, .ref pe_6, .ref pe_7, .ref pe_8, .ref pe_9, .ref pe_10]))]) hS => ?_)
  subst hwr2
  refine lv_if_eq (tgt := 21) hx hb dX11_trade_6 (by decide) (fun _ => ?_) (fun h_ => absurd (by decide +kernel) h_)
  refine lv_ldcw hx hb hown (F.2.2.2.2 _ cnX11_281) dX11_trade_21 ?_
  exact r_i F hr hlk hP hD hS () [] rfl rfl rfl dX11_trade_24 (Nat.le_of_ble_eq_true rfl) (Nat.le_of_ble_eq_true rfl)
set_option maxHeartbeats 4000000 in
set_option maxRecDepth 100000 in
theorem k_X11_should (l : Launch) (G : Gx) (x : Nat) (a : Int32) (x_0 : Nat) (sp : Nat) (stm : Nat) (pl : Nat) (sk : Nat) (se : Nat) (ch : Nat) (x_11 : Nat) (x_13 : Nat) (ho : Nat) (pl_1 : Nat) (pl_5 : Nat) (fl : Nat) (pe : Nat) (ru : Nat) (ho_4 : Nat) (ho_5 : Nat) (ho_6 : Nat) (ho_8 : Nat) (ho_9 : Nat) (ho_10 : Nat) (ho_11 : Nat) (ho_12 : Nat) (pe_1 : Nat) (pe_2 : Nat) (pe_3 : Nat) (pe_4 : Nat) (pe_5 : Nat) (pe_6 : Nat) (pe_7 : Nat) (pe_8 : Nat) (pe_9 : Nat) (pe_10 : Nat) (fl_3 : Nat) (fl_4 : Nat) (fl_5 : Nat) (fl_6 : Nat) (fl_7 : Nat)  : CtI (S := Unit) l yX11_should cX11_should 2 (some .int) (rmD 2 0 0) G [.ref x, .int a] [(x, .inr (11, [.ref x_0, .int 0, .ref sp, .ref stm, .ref pl, .ref sk, .ref se, .ref ch, .int 0, .int (-1), .long 1, .ref x_11, .int 0, .ref x_13])), (pl, .inr (4, [.ref ho, .ref pl_1, .int 0, .int (-1), .int (-1), .ref pl_5])), (ho, .inr (2, [.ref fl, .ref pe, .ref ru, .int 0, .ref ho_4, .ref ho_5, .ref ho_6, .int 0, .ref ho_8, .ref ho_9, .ref ho_10, .ref ho_11, .ref ho_12, .int 50])), (pe, .inr (3, [.int 0, .ref pe_1, .ref pe_2, .ref pe_3, .ref pe_4, .ref pe_5, .ref pe_6, .ref pe_7, .ref pe_8, .ref pe_9, .ref pe_10])), (fl, .inr (1, [.int 0, .int 0, .int 0, .ref fl_3, .ref fl_4, .ref fl_5, .ref fl_6, .ref fl_7]))] (fun r _ => r = fShould a) (fun _ => []) := by
  refine ctI_of (own := RX11) (by decide +kernel) rfl (Nat.le_of_ble_eq_true rfl) ?_
  intro p e s m below meth c A ls F hr hlk hnm hK hP hD hA hS hl
  have hx := F.1
  have hb := F.2.1
  have hown := F.2.2.2.1
  have hl : lv_has ls 2 [(0, .ref x), (1, .int a)] := hl
  refine lv_iload_n hx hb dX11_should_0 rfl (lv_at hl 1 rfl) ?_
  by_cases h1 : a = 0
  · subst h1
    refine lv_tableIn (off := 27) (tgt := 28) hx hb dX11_should_1 (by decide) (by decide) rfl (by decide) ?_
    refine lv_aload_n hx hb dX11_should_28 rfl (lv_at hl 0 rfl) ?_
    refine g_get F hK hP 0 rfl clX11 4 (by decide) flX11_43 rfl dX11_should_29 ?_
    refine cvi (wr := [(x, .inr (11, [.ref x_0, .int 0, .ref sp, .ref stm, .ref pl, .ref sk, .ref se, .ref ch, .int 0, .int (-1), .long 1, .ref x_11, .int 0, .ref x_13])), (pe, .inr (3, [.int 0, .ref pe_1, .ref pe_2, .ref pe_3, .ref pe_4, .ref pe_5, .ref pe_6, .ref pe_7, .ref pe_8, .ref pe_9, .ref pe_10])), (fl, .inr (1, [.int 0, .int 0, .int 0, .ref fl_3, .ref fl_4, .ref fl_5, .ref fl_6, .ref fl_7]))]) (As := []) (rest := []) (b := pl) (k1 := 0) (s1 := 0) F hK hP hD hS hA (k_X4_greatestUnmet l G pl ho pl_1 pl_5 fl pe ru ho_4 ho_5 ho_6 ho_8 ho_9 ho_10 ho_11 ho_12) kmV_X4_greatestUnmet mlX11_288 clX4 rfl 0 rfl ⟨(Nat.le_of_ble_eq_true rfl), (Nat.le_of_ble_eq_true rfl)⟩ [1, 2] [0, 3, 4] rfl rfl rfl rfl (by decide) hl.1 rfl (Nat.le_of_ble_eq_true rfl) dX11_should_32 ⟨(Nat.le_of_ble_eq_true rfl), (Nat.le_of_ble_eq_true rfl)⟩ rfl rfl (fun r3 u2 H locs hwr3 (hP : va_P G.1 vwCl [(x, .inr (11, [.ref x_0, .int 0, .ref sp, .ref stm, .ref pl, .ref sk, .ref se, .ref ch, .int 0, .int (-1), .long 1, .ref x_11, .int 0, .ref x_13])), (pe, .inr (3, [.int 0, .ref pe_1, .ref pe_2, .ref pe_3, .ref pe_4, .ref pe_5, .ref pe_6, .ref pe_7, .ref pe_8, .ref pe_9, .ref pe_10])), (fl, .inr (1, [.int 0, .int 0, .int 0, .ref fl_3, .ref fl_4, .ref fl_5, .ref fl_6, .ref fl_7])), (pl, .inr (4, [.ref ho, .ref pl_1, .int 0, .int (-1), .int (-1), .ref pl_5])), (ho, .inr (2, [.ref fl, .ref pe, .ref ru, .int 0, .ref ho_4, .ref ho_5, .ref ho_6, .int 0, .ref ho_8, .ref ho_9, .ref ho_10, .ref ho_11, .ref ho_12, .int 50]))] H) (hD : va_D A [(x, .inr (11, [.ref x_0, .int 0, .ref sp, .ref stm, .ref pl, .ref sk, .ref se, .ref ch, .int 0, .int (-1), .long 1, .ref x_11, .int 0, .ref x_13])), (pe, .inr (3, [.int 0, .ref pe_1, .ref pe_2, .ref pe_3, .ref pe_4, .ref pe_5, .ref pe_6, .ref pe_7, .ref pe_8, .ref pe_9, .ref pe_10])), (fl, .inr (1, [.int 0, .int 0, .int 0, .ref fl_3, .ref fl_4, .ref fl_5, .ref fl_6, .ref fl_7])), (pl, .inr (4, [.ref ho, .ref pl_1, .int 0, .int (-1), .int (-1), .ref pl_5])), (ho, .inr (2, [.ref fl, .ref pe, .ref ru, .int 0, .ref ho_4, .ref ho_5, .ref ho_6, .int 0, .ref ho_8, .ref ho_9, .ref ho_10, .ref ho_11, .ref ho_12, .int 50]))]) hS => ?_)
    subst hwr3
    exact r_i F hr hlk hP hD hS () [] rfl rfl (by simp [fShould]) dX11_should_35 (Nat.le_of_ble_eq_true rfl) (Nat.le_of_ble_eq_true rfl)
  by_cases h4 : a = 1
  · subst h4
    refine lv_tableIn (off := 35) (tgt := 36) hx hb dX11_should_1 (by decide) (by decide) rfl (by decide) ?_
    refine lv_aload_n hx hb dX11_should_36 rfl (lv_at hl 0 rfl) ?_
    refine g_get F hK hP 0 rfl clX11 4 (by decide) flX11_43 rfl dX11_should_37 ?_
    refine cvi (wr := [(x, .inr (11, [.ref x_0, .int 0, .ref sp, .ref stm, .ref pl, .ref sk, .ref se, .ref ch, .int 0, .int (-1), .long 1, .ref x_11, .int 0, .ref x_13])), (pe, .inr (3, [.int 0, .ref pe_1, .ref pe_2, .ref pe_3, .ref pe_4, .ref pe_5, .ref pe_6, .ref pe_7, .ref pe_8, .ref pe_9, .ref pe_10])), (fl, .inr (1, [.int 0, .int 0, .int 0, .ref fl_3, .ref fl_4, .ref fl_5, .ref fl_6, .ref fl_7]))]) (As := []) (rest := []) (b := pl) (k1 := 0) (s1 := 0) F hK hP hD hS hA (k_X4_unmetTies l G pl ho pl_1 pl_5 fl pe ru ho_4 ho_5 ho_6 ho_8 ho_9 ho_10 ho_11 ho_12) kmV_X4_unmetTies mlX11_291 clX4 rfl 0 rfl ⟨(Nat.le_of_ble_eq_true rfl), (Nat.le_of_ble_eq_true rfl)⟩ [1, 2] [0, 3, 4] rfl rfl rfl rfl (by decide) hl.1 rfl (Nat.le_of_ble_eq_true rfl) dX11_should_40 ⟨(Nat.le_of_ble_eq_true rfl), (Nat.le_of_ble_eq_true rfl)⟩ rfl rfl (fun r6 u5 H locs hwr6 (hP : va_P G.1 vwCl [(x, .inr (11, [.ref x_0, .int 0, .ref sp, .ref stm, .ref pl, .ref sk, .ref se, .ref ch, .int 0, .int (-1), .long 1, .ref x_11, .int 0, .ref x_13])), (pe, .inr (3, [.int 0, .ref pe_1, .ref pe_2, .ref pe_3, .ref pe_4, .ref pe_5, .ref pe_6, .ref pe_7, .ref pe_8, .ref pe_9, .ref pe_10])), (fl, .inr (1, [.int 0, .int 0, .int 0, .ref fl_3, .ref fl_4, .ref fl_5, .ref fl_6, .ref fl_7])), (pl, .inr (4, [.ref ho, .ref pl_1, .int 0, .int (-1), .int (-1), .ref pl_5])), (ho, .inr (2, [.ref fl, .ref pe, .ref ru, .int 0, .ref ho_4, .ref ho_5, .ref ho_6, .int 0, .ref ho_8, .ref ho_9, .ref ho_10, .ref ho_11, .ref ho_12, .int 50]))] H) (hD : va_D A [(x, .inr (11, [.ref x_0, .int 0, .ref sp, .ref stm, .ref pl, .ref sk, .ref se, .ref ch, .int 0, .int (-1), .long 1, .ref x_11, .int 0, .ref x_13])), (pe, .inr (3, [.int 0, .ref pe_1, .ref pe_2, .ref pe_3, .ref pe_4, .ref pe_5, .ref pe_6, .ref pe_7, .ref pe_8, .ref pe_9, .ref pe_10])), (fl, .inr (1, [.int 0, .int 0, .int 0, .ref fl_3, .ref fl_4, .ref fl_5, .ref fl_6, .ref fl_7])), (pl, .inr (4, [.ref ho, .ref pl_1, .int 0, .int (-1), .int (-1), .ref pl_5])), (ho, .inr (2, [.ref fl, .ref pe, .ref ru, .int 0, .ref ho_4, .ref ho_5, .ref ho_6, .int 0, .ref ho_8, .ref ho_9, .ref ho_10, .ref ho_11, .ref ho_12, .int 50]))]) hS => ?_)
    subst hwr6
    exact r_i F hr hlk hP hD hS () [] rfl rfl (by simp [fShould, h1]) dX11_should_43 (Nat.le_of_ble_eq_true rfl) (Nat.le_of_ble_eq_true rfl)
  by_cases h7 : a = 2
  · subst h7
    refine lv_tableIn (off := 43) (tgt := 44) hx hb dX11_should_1 (by decide) (by decide) rfl (by decide) ?_
    refine lv_aload_n hx hb dX11_should_44 rfl (lv_at hl 0 rfl) ?_
    refine g_get F hK hP 0 rfl clX11 4 (by decide) flX11_43 rfl dX11_should_45 ?_
    refine cvi (wr := [(x, .inr (11, [.ref x_0, .int 0, .ref sp, .ref stm, .ref pl, .ref sk, .ref se, .ref ch, .int 0, .int (-1), .long 1, .ref x_11, .int 0, .ref x_13])), (fl, .inr (1, [.int 0, .int 0, .int 0, .ref fl_3, .ref fl_4, .ref fl_5, .ref fl_6, .ref fl_7]))]) (As := []) (rest := []) (b := pl) (k1 := 0) (s1 := 0) F hK hP hD hS hA (k_X4_lonelyPersons l G pl ho pl_1 pl_5 fl pe ru ho_4 ho_5 ho_6 ho_8 ho_9 ho_10 ho_11 ho_12 pe_1 pe_2 pe_3 pe_4 pe_5 pe_6 pe_7 pe_8 pe_9 pe_10) kmV_X4_lonelyPersons mlX11_294 clX4 rfl 0 rfl ⟨(Nat.le_of_ble_eq_true rfl), (Nat.le_of_ble_eq_true rfl)⟩ [1, 2, 3] [0, 4] rfl rfl rfl rfl (by decide) hl.1 rfl (Nat.le_of_ble_eq_true rfl) dX11_should_48 ⟨(Nat.le_of_ble_eq_true rfl), (Nat.le_of_ble_eq_true rfl)⟩ rfl rfl (fun r9 u8 H locs hwr9 (hP : va_P G.1 vwCl [(x, .inr (11, [.ref x_0, .int 0, .ref sp, .ref stm, .ref pl, .ref sk, .ref se, .ref ch, .int 0, .int (-1), .long 1, .ref x_11, .int 0, .ref x_13])), (fl, .inr (1, [.int 0, .int 0, .int 0, .ref fl_3, .ref fl_4, .ref fl_5, .ref fl_6, .ref fl_7])), (pl, .inr (4, [.ref ho, .ref pl_1, .int 0, .int (-1), .int (-1), .ref pl_5])), (ho, .inr (2, [.ref fl, .ref pe, .ref ru, .int 0, .ref ho_4, .ref ho_5, .ref ho_6, .int 0, .ref ho_8, .ref ho_9, .ref ho_10, .ref ho_11, .ref ho_12, .int 50])), (pe, .inr (3, [.int 0, .ref pe_1, .ref pe_2, .ref pe_3, .ref pe_4, .ref pe_5, .ref pe_6, .ref pe_7, .ref pe_8, .ref pe_9, .ref pe_10]))] H) (hD : va_D A [(x, .inr (11, [.ref x_0, .int 0, .ref sp, .ref stm, .ref pl, .ref sk, .ref se, .ref ch, .int 0, .int (-1), .long 1, .ref x_11, .int 0, .ref x_13])), (fl, .inr (1, [.int 0, .int 0, .int 0, .ref fl_3, .ref fl_4, .ref fl_5, .ref fl_6, .ref fl_7])), (pl, .inr (4, [.ref ho, .ref pl_1, .int 0, .int (-1), .int (-1), .ref pl_5])), (ho, .inr (2, [.ref fl, .ref pe, .ref ru, .int 0, .ref ho_4, .ref ho_5, .ref ho_6, .int 0, .ref ho_8, .ref ho_9, .ref ho_10, .ref ho_11, .ref ho_12, .int 50])), (pe, .inr (3, [.int 0, .ref pe_1, .ref pe_2, .ref pe_3, .ref pe_4, .ref pe_5, .ref pe_6, .ref pe_7, .ref pe_8, .ref pe_9, .ref pe_10]))]) hS => ?_)
    subst hwr9
    exact r_i F hr hlk hP hD hS () [] rfl rfl (by simp [fShould, h1, h4]) dX11_should_51 (Nat.le_of_ble_eq_true rfl) (Nat.le_of_ble_eq_true rfl)
  refine lv_tableOut (tgt := 52) hx hb dX11_should_1 (by have gh1 := lv_neT h1 (a := 0) rfl; have gh4 := lv_neT h4 (a := 1) rfl; have gh7 := lv_neT h7 (a := 2) rfl; omega) (by decide) ?_
  refine lv_iconst (v := (-1)) hx hb dX11_should_52 (by decide) ?_
  exact r_i F hr hlk hP hD hS () [] rfl rfl (by simp [fShould, h1, h4, h7]) dX11_should_53 (Nat.le_of_ble_eq_true rfl) (Nat.le_of_ble_eq_true rfl)
set_option maxHeartbeats 4000000 in
set_option maxRecDepth 100000 in
theorem k_X11_bound (l : Launch) (G : Gx) (x : Nat) (a : Int32) (x_0 : Nat) (sp : Nat) (stm : Nat) (pl : Nat) (sk : Nat) (se : Nat) (ch : Nat) (x_11 : Nat) (x_13 : Nat) (ho : Nat) (pl_1 : Nat) (pl_5 : Nat) (fl : Nat) (pe : Nat) (ru : Nat) (ho_4 : Nat) (ho_5 : Nat) (ho_6 : Nat) (ho_8 : Nat) (ho_9 : Nat) (ho_10 : Nat) (ho_11 : Nat) (ho_12 : Nat) (pe_1 : Nat) (pe_2 : Nat) (pe_3 : Nat) (pe_4 : Nat) (pe_5 : Nat) (pe_6 : Nat) (pe_7 : Nat) (pe_8 : Nat) (pe_9 : Nat) (pe_10 : Nat) (fl_3 : Nat) (fl_4 : Nat) (fl_5 : Nat) (fl_6 : Nat) (fl_7 : Nat)  : CtI (S := Unit) l yX11_bound cX11_bound 3 (some .int) (rmD 2 0 0) G [.ref x, .int a] [(x, .inr (11, [.ref x_0, .int 0, .ref sp, .ref stm, .ref pl, .ref sk, .ref se, .ref ch, .int 0, .int (-1), .long 1, .ref x_11, .int 0, .ref x_13])), (pl, .inr (4, [.ref ho, .ref pl_1, .int 0, .int (-1), .int (-1), .ref pl_5])), (ho, .inr (2, [.ref fl, .ref pe, .ref ru, .int 0, .ref ho_4, .ref ho_5, .ref ho_6, .int 0, .ref ho_8, .ref ho_9, .ref ho_10, .ref ho_11, .ref ho_12, .int 50])), (pe, .inr (3, [.int 0, .ref pe_1, .ref pe_2, .ref pe_3, .ref pe_4, .ref pe_5, .ref pe_6, .ref pe_7, .ref pe_8, .ref pe_9, .ref pe_10])), (fl, .inr (1, [.int 0, .int 0, .int 0, .ref fl_3, .ref fl_4, .ref fl_5, .ref fl_6, .ref fl_7]))] (fun r _ => r = 0) (fun _ => []) := by
  refine ctI_of (own := RX11) (by decide +kernel) rfl (Nat.le_of_ble_eq_true rfl) ?_
  intro p e s m below meth c A ls F hr hlk hnm hK hP hD hA hS hl
  have hx := F.1
  have hb := F.2.1
  have hown := F.2.2.2.1
  have hl : lv_has ls 3 [(0, .ref x), (1, .int a)] := hl
  refine lv_aload_n hx hb dX11_bound_0 rfl (lv_at hl 0 rfl) ?_
  refine g_get F hK hP 0 rfl clX11 4 (by decide) flX11_43 rfl dX11_bound_1 ?_
  refine g_get F hK hP 1 rfl clX4 0 (by decide) flX11_121 rfl dX11_bound_4 ?_
  refine cvi (wr := [(x, .inr (11, [.ref x_0, .int 0, .ref sp, .ref stm, .ref pl, .ref sk, .ref se, .ref ch, .int 0, .int (-1), .long 1, .ref x_11, .int 0, .ref x_13])), (pl, .inr (4, [.ref ho, .ref pl_1, .int 0, .int (-1), .int (-1), .ref pl_5])), (pe, .inr (3, [.int 0, .ref pe_1, .ref pe_2, .ref pe_3, .ref pe_4, .ref pe_5, .ref pe_6, .ref pe_7, .ref pe_8, .ref pe_9, .ref pe_10])), (fl, .inr (1, [.int 0, .int 0, .int 0, .ref fl_3, .ref fl_4, .ref fl_5, .ref fl_6, .ref fl_7]))]) (As := []) (rest := []) (b := ho) (k1 := 0) (s1 := 0) F hK hP hD hS hA (k_X2_tieBound l G ho fl pe ru ho_4 ho_5 ho_6 ho_8 ho_9 ho_10 ho_11 ho_12) kmV_X2_tieBound mlX11_297 clX2 rfl 0 rfl ⟨(Nat.le_of_ble_eq_true rfl), (Nat.le_of_ble_eq_true rfl)⟩ [2] [0, 1, 3, 4] rfl rfl rfl rfl (by decide) hl.1 rfl (Nat.le_of_ble_eq_true rfl) dX11_bound_7 ⟨(Nat.le_of_ble_eq_true rfl), (Nat.le_of_ble_eq_true rfl)⟩ rfl rfl (fun r2 u1 H locs hwr2 (hP : va_P G.1 vwCl [(x, .inr (11, [.ref x_0, .int 0, .ref sp, .ref stm, .ref pl, .ref sk, .ref se, .ref ch, .int 0, .int (-1), .long 1, .ref x_11, .int 0, .ref x_13])), (pl, .inr (4, [.ref ho, .ref pl_1, .int 0, .int (-1), .int (-1), .ref pl_5])), (pe, .inr (3, [.int 0, .ref pe_1, .ref pe_2, .ref pe_3, .ref pe_4, .ref pe_5, .ref pe_6, .ref pe_7, .ref pe_8, .ref pe_9, .ref pe_10])), (fl, .inr (1, [.int 0, .int 0, .int 0, .ref fl_3, .ref fl_4, .ref fl_5, .ref fl_6, .ref fl_7])), (ho, .inr (2, [.ref fl, .ref pe, .ref ru, .int 0, .ref ho_4, .ref ho_5, .ref ho_6, .int 0, .ref ho_8, .ref ho_9, .ref ho_10, .ref ho_11, .ref ho_12, .int 50]))] H) (hD : va_D A [(x, .inr (11, [.ref x_0, .int 0, .ref sp, .ref stm, .ref pl, .ref sk, .ref se, .ref ch, .int 0, .int (-1), .long 1, .ref x_11, .int 0, .ref x_13])), (pl, .inr (4, [.ref ho, .ref pl_1, .int 0, .int (-1), .int (-1), .ref pl_5])), (pe, .inr (3, [.int 0, .ref pe_1, .ref pe_2, .ref pe_3, .ref pe_4, .ref pe_5, .ref pe_6, .ref pe_7, .ref pe_8, .ref pe_9, .ref pe_10])), (fl, .inr (1, [.int 0, .int 0, .int 0, .ref fl_3, .ref fl_4, .ref fl_5, .ref fl_6, .ref fl_7])), (ho, .inr (2, [.ref fl, .ref pe, .ref ru, .int 0, .ref ho_4, .ref ho_5, .ref ho_6, .int 0, .ref ho_8, .ref ho_9, .ref ho_10, .ref ho_11, .ref ho_12, .int 50]))]) hS => ?_)
  subst hwr2
  refine lv_istore_n (lv' := [(2, .int 0), (0, .ref x), (1, .int a)]) hx hb dX11_bound_10 rfl hl (by decide) rfl (fun ls hl => ?_)
  refine lv_iload_n hx hb dX11_bound_11 rfl (lv_at hl 2 rfl) ?_
  refine lv_if_eq (tgt := 27) hx hb dX11_bound_12 (by decide) (fun c3 => ?_) (fun c3 => ?_)
  · refine lv_iload_n hx hb dX11_bound_27 rfl (lv_at hl 0 rfl) ?_
    exact r_i F hr hlk hP hD hS () [] rfl rfl rfl dX11_bound_28 (Nat.le_of_ble_eq_true rfl) (Nat.le_of_ble_eq_true rfl)
  · refine lv_iload_n hx hb dX11_bound_15 rfl (lv_at hl 0 rfl) ?_
    refine lv_aload_n hx hb dX11_bound_16 rfl (lv_at hl 1 rfl) ?_
    refine g_get F hK hP 0 rfl clX11 4 (by decide) flX11_43 rfl dX11_bound_17 ?_
    refine cvi (wr := [(x, .inr (11, [.ref x_0, .int 0, .ref sp, .ref stm, .ref pl, .ref sk, .ref se, .ref ch, .int 0, .int (-1), .long 1, .ref x_11, .int 0, .ref x_13])), (pe, .inr (3, [.int 0, .ref pe_1, .ref pe_2, .ref pe_3, .ref pe_4, .ref pe_5, .ref pe_6, .ref pe_7, .ref pe_8, .ref pe_9, .ref pe_10])), (fl, .inr (1, [.int 0, .int 0, .int 0, .ref fl_3, .ref fl_4, .ref fl_5, .ref fl_6, .ref fl_7]))]) (As := []) (rest := [.int 0]) (b := pl) (k1 := 0) (s1 := 0) F hK hP hD hS hA (k_X4_tieWorth l G pl ho pl_1 pl_5 fl pe ru ho_4 ho_5 ho_6 ho_8 ho_9 ho_10 ho_11 ho_12) kmV_X4_tieWorth mlX11_300 clX4 rfl 0 rfl ⟨(Nat.le_of_ble_eq_true rfl), (Nat.le_of_ble_eq_true rfl)⟩ [1, 4] [0, 2, 3] rfl rfl rfl rfl (by decide) hl.1 rfl (Nat.le_of_ble_eq_true rfl) dX11_bound_20 ⟨(Nat.le_of_ble_eq_true rfl), (Nat.le_of_ble_eq_true rfl)⟩ rfl rfl (fun r5 u4 H locs hwr5 (hP : va_P G.1 vwCl [(x, .inr (11, [.ref x_0, .int 0, .ref sp, .ref stm, .ref pl, .ref sk, .ref se, .ref ch, .int 0, .int (-1), .long 1, .ref x_11, .int 0, .ref x_13])), (pe, .inr (3, [.int 0, .ref pe_1, .ref pe_2, .ref pe_3, .ref pe_4, .ref pe_5, .ref pe_6, .ref pe_7, .ref pe_8, .ref pe_9, .ref pe_10])), (fl, .inr (1, [.int 0, .int 0, .int 0, .ref fl_3, .ref fl_4, .ref fl_5, .ref fl_6, .ref fl_7])), (pl, .inr (4, [.ref ho, .ref pl_1, .int 0, .int (-1), .int (-1), .ref pl_5])), (ho, .inr (2, [.ref fl, .ref pe, .ref ru, .int 0, .ref ho_4, .ref ho_5, .ref ho_6, .int 0, .ref ho_8, .ref ho_9, .ref ho_10, .ref ho_11, .ref ho_12, .int 50]))] H) (hD : va_D A [(x, .inr (11, [.ref x_0, .int 0, .ref sp, .ref stm, .ref pl, .ref sk, .ref se, .ref ch, .int 0, .int (-1), .long 1, .ref x_11, .int 0, .ref x_13])), (pe, .inr (3, [.int 0, .ref pe_1, .ref pe_2, .ref pe_3, .ref pe_4, .ref pe_5, .ref pe_6, .ref pe_7, .ref pe_8, .ref pe_9, .ref pe_10])), (fl, .inr (1, [.int 0, .int 0, .int 0, .ref fl_3, .ref fl_4, .ref fl_5, .ref fl_6, .ref fl_7])), (pl, .inr (4, [.ref ho, .ref pl_1, .int 0, .int (-1), .int (-1), .ref pl_5])), (ho, .inr (2, [.ref fl, .ref pe, .ref ru, .int 0, .ref ho_4, .ref ho_5, .ref ho_6, .int 0, .ref ho_8, .ref ho_9, .ref ho_10, .ref ho_11, .ref ho_12, .int 50]))]) hS => ?_)
    subst hwr5
    refine lv_isub hx hb dX11_bound_23 ?_
    refine cst_i (y := 0) (by decide +kernel) ?_
    refine lv_goto (tgt := 28) hx hb dX11_bound_24 (by decide) ?_
    exact r_i F hr hlk hP hD hS () [] rfl rfl rfl dX11_bound_28 (Nat.le_of_ble_eq_true rfl) (Nat.le_of_ble_eq_true rfl)
set_option maxHeartbeats 4000000 in
set_option maxRecDepth 100000 in
theorem k_X11_alone (l : Launch) (G : Gx) (x : Nat) (a : Int32) (x_0 : Nat) (sp : Nat) (stm : Nat) (pl : Nat) (sk : Nat) (se : Nat) (ch : Nat) (x_11 : Nat) (x_13 : Nat) (ho : Nat) (pl_1 : Nat) (pl_5 : Nat) (fl : Nat) (pe : Nat) (ru : Nat) (ho_4 : Nat) (ho_5 : Nat) (ho_6 : Nat) (ho_8 : Nat) (ho_9 : Nat) (ho_10 : Nat) (ho_11 : Nat) (ho_12 : Nat) (pe_1 : Nat) (pe_2 : Nat) (pe_3 : Nat) (pe_4 : Nat) (pe_5 : Nat) (pe_6 : Nat) (pe_7 : Nat) (pe_8 : Nat) (pe_9 : Nat) (pe_10 : Nat) (fl_3 : Nat) (fl_4 : Nat) (fl_5 : Nat) (fl_6 : Nat) (fl_7 : Nat)  : CtI (S := Unit) l yX11_alone cX11_alone 2 (some .int) (rmD 3 0 0) G [.ref x, .int a] [(x, .inr (11, [.ref x_0, .int 0, .ref sp, .ref stm, .ref pl, .ref sk, .ref se, .ref ch, .int 0, .int (-1), .long 1, .ref x_11, .int 0, .ref x_13])), (pl, .inr (4, [.ref ho, .ref pl_1, .int 0, .int (-1), .int (-1), .ref pl_5])), (ho, .inr (2, [.ref fl, .ref pe, .ref ru, .int 0, .ref ho_4, .ref ho_5, .ref ho_6, .int 0, .ref ho_8, .ref ho_9, .ref ho_10, .ref ho_11, .ref ho_12, .int 50])), (pe, .inr (3, [.int 0, .ref pe_1, .ref pe_2, .ref pe_3, .ref pe_4, .ref pe_5, .ref pe_6, .ref pe_7, .ref pe_8, .ref pe_9, .ref pe_10])), (fl, .inr (1, [.int 0, .int 0, .int 0, .ref fl_3, .ref fl_4, .ref fl_5, .ref fl_6, .ref fl_7]))] (fun r _ => r = (-1000000000)) (fun _ => []) := by
  refine ctI_of (own := RX11) (by decide +kernel) rfl (Nat.le_of_ble_eq_true rfl) ?_
  intro p e s m below meth c A ls F hr hlk hnm hK hP hD hA hS hl
  have hx := F.1
  have hb := F.2.1
  have hown := F.2.2.2.1
  have hl : lv_has ls 2 [(0, .ref x), (1, .int a)] := hl
  refine lv_aload_n hx hb dX11_alone_0 rfl (lv_at hl 0 rfl) ?_
  refine lv_iload_n hx hb dX11_alone_1 rfl (lv_at hl 1 rfl) ?_
  refine cvi (wr := [(fl, .inr (1, [.int 0, .int 0, .int 0, .ref fl_3, .ref fl_4, .ref fl_5, .ref fl_6, .ref fl_7]))]) (As := [.int a]) (rest := []) (b := x) (k1 := 0) (s1 := 0) F hK hP hD hS hA (k_X11_isPerson l G x a x_0 sp stm pl sk se ch x_11 x_13 ho pl_1 pl_5 fl pe ru ho_4 ho_5 ho_6 ho_8 ho_9 ho_10 ho_11 ho_12 pe_1 pe_2 pe_3 pe_4 pe_5 pe_6 pe_7 pe_8 pe_9 pe_10) kmV_X11_isPerson mlX11_184 clX11 rfl 0 rfl ⟨(Nat.le_of_ble_eq_true rfl), (Nat.le_of_ble_eq_true rfl)⟩ [0, 1, 2, 3] [4] rfl rfl rfl rfl (by decide) hl.1 rfl (Nat.le_of_ble_eq_true rfl) dX11_alone_2 ⟨(Nat.le_of_ble_eq_true rfl), (Nat.le_of_ble_eq_true rfl)⟩ rfl rfl (fun r2 u1 H locs hwr2 (hP : va_P G.1 vwCl [(fl, .inr (1, [.int 0, .int 0, .int 0, .ref fl_3, .ref fl_4, .ref fl_5, .ref fl_6, .ref fl_7])), (x, .inr (11, [.ref x_0, .int 0, .ref sp, .ref stm, .ref pl, .ref sk, .ref se, .ref ch, .int 0, .int (-1), .long 1, .ref x_11, .int 0, .ref x_13])), (pl, .inr (4, [.ref ho, .ref pl_1, .int 0, .int (-1), .int (-1), .ref pl_5])), (ho, .inr (2, [.ref fl, .ref pe, .ref ru, .int 0, .ref ho_4, .ref ho_5, .ref ho_6, .int 0, .ref ho_8, .ref ho_9, .ref ho_10, .ref ho_11, .ref ho_12, .int 50])), (pe, .inr (3, [.int 0, .ref pe_1, .ref pe_2, .ref pe_3, .ref pe_4, .ref pe_5, .ref pe_6, .ref pe_7, .ref pe_8, .ref pe_9, .ref pe_10]))] H) (hD : va_D A [(fl, .inr (1, [.int 0, .int 0, .int 0, .ref fl_3, .ref fl_4, .ref fl_5, .ref fl_6, .ref fl_7])), (x, .inr (11, [.ref x_0, .int 0, .ref sp, .ref stm, .ref pl, .ref sk, .ref se, .ref ch, .int 0, .int (-1), .long 1, .ref x_11, .int 0, .ref x_13])), (pl, .inr (4, [.ref ho, .ref pl_1, .int 0, .int (-1), .int (-1), .ref pl_5])), (ho, .inr (2, [.ref fl, .ref pe, .ref ru, .int 0, .ref ho_4, .ref ho_5, .ref ho_6, .int 0, .ref ho_8, .ref ho_9, .ref ho_10, .ref ho_11, .ref ho_12, .int 50])), (pe, .inr (3, [.int 0, .ref pe_1, .ref pe_2, .ref pe_3, .ref pe_4, .ref pe_5, .ref pe_6, .ref pe_7, .ref pe_8, .ref pe_9, .ref pe_10]))]) hS => ?_)
  subst hwr2
  refine lv_if_eq (tgt := 28) hx hb dX11_alone_5 (by decide) (fun _ => ?_) (fun h_ => absurd (by decide +kernel) h_)
  refine lv_ldcw hx hb hown (F.2.2.2.2 _ cnX11_281) dX11_alone_28 ?_
  exact r_i F hr hlk hP hD hS () [] rfl rfl rfl dX11_alone_31 (Nat.le_of_ble_eq_true rfl) (Nat.le_of_ble_eq_true rfl)
set_option maxHeartbeats 4000000 in
set_option maxRecDepth 100000 in
theorem k_X11_seat (l : Launch) (G : Gx) (x : Nat) (a : Int32) (b : Int32) (x_0 : Nat) (sp : Nat) (stm : Nat) (pl : Nat) (sk : Nat) (se : Nat) (ch : Nat) (x_11 : Nat) (x_13 : Nat) (ho : Nat) (pl_1 : Nat) (pl_5 : Nat) (fl : Nat) (pe : Nat) (ru : Nat) (ho_4 : Nat) (ho_5 : Nat) (ho_6 : Nat) (ho_8 : Nat) (ho_9 : Nat) (ho_10 : Nat) (ho_11 : Nat) (ho_12 : Nat) (pe_1 : Nat) (pe_2 : Nat) (pe_3 : Nat) (pe_4 : Nat) (pe_5 : Nat) (pe_6 : Nat) (pe_7 : Nat) (pe_8 : Nat) (pe_9 : Nat) (pe_10 : Nat) (fl_3 : Nat) (fl_4 : Nat) (fl_5 : Nat) (fl_6 : Nat) (fl_7 : Nat)  : CtI (S := Unit) l yX11_seat cX11_seat 3 (some .int) (rmD 3 0 0) G [.ref x, .int a, .int b] [(x, .inr (11, [.ref x_0, .int 0, .ref sp, .ref stm, .ref pl, .ref sk, .ref se, .ref ch, .int 0, .int (-1), .long 1, .ref x_11, .int 0, .ref x_13])), (pl, .inr (4, [.ref ho, .ref pl_1, .int 0, .int (-1), .int (-1), .ref pl_5])), (ho, .inr (2, [.ref fl, .ref pe, .ref ru, .int 0, .ref ho_4, .ref ho_5, .ref ho_6, .int 0, .ref ho_8, .ref ho_9, .ref ho_10, .ref ho_11, .ref ho_12, .int 50])), (pe, .inr (3, [.int 0, .ref pe_1, .ref pe_2, .ref pe_3, .ref pe_4, .ref pe_5, .ref pe_6, .ref pe_7, .ref pe_8, .ref pe_9, .ref pe_10])), (fl, .inr (1, [.int 0, .int 0, .int 0, .ref fl_3, .ref fl_4, .ref fl_5, .ref fl_6, .ref fl_7]))] (fun r _ => r = (-1)) (fun _ => []) := by
  refine ctI_of (own := RX11) (by decide +kernel) rfl (Nat.le_of_ble_eq_true rfl) ?_
  intro p e s m below meth c A ls F hr hlk hnm hK hP hD hA hS hl
  have hx := F.1
  have hb := F.2.1
  have hown := F.2.2.2.1
  have hl : lv_has ls 3 [(0, .ref x), (1, .int a), (2, .int b)] := hl
  refine lv_iload_n hx hb dX11_seat_0 rfl (lv_at hl 1 rfl) ?_
  refine csi (wr := [(x, .inr (11, [.ref x_0, .int 0, .ref sp, .ref stm, .ref pl, .ref sk, .ref se, .ref ch, .int 0, .int (-1), .long 1, .ref x_11, .int 0, .ref x_13])), (pl, .inr (4, [.ref ho, .ref pl_1, .int 0, .int (-1), .int (-1), .ref pl_5])), (ho, .inr (2, [.ref fl, .ref pe, .ref ru, .int 0, .ref ho_4, .ref ho_5, .ref ho_6, .int 0, .ref ho_8, .ref ho_9, .ref ho_10, .ref ho_11, .ref ho_12, .int 50])), (pe, .inr (3, [.int 0, .ref pe_1, .ref pe_2, .ref pe_3, .ref pe_4, .ref pe_5, .ref pe_6, .ref pe_7, .ref pe_8, .ref pe_9, .ref pe_10])), (fl, .inr (1, [.int 0, .int 0, .int 0, .ref fl_3, .ref fl_4, .ref fl_5, .ref fl_6, .ref fl_7]))]) (As := [.int a]) (rest := []) (k1 := 0) (s1 := 0) F hK hP hD hS hA (k_X11_isDay l G a) kmS_X11_isDay mlX11_230 ⟨(Nat.le_of_ble_eq_true rfl), (Nat.le_of_ble_eq_true rfl)⟩ [] [0, 1, 2, 3, 4] rfl rfl rfl rfl (by decide) hl.1 rfl (Nat.le_of_ble_eq_true rfl) dX11_seat_1 ⟨(Nat.le_of_ble_eq_true rfl), (Nat.le_of_ble_eq_true rfl)⟩ rfl rfl (fun r2 u1 H locs hwr2 (hP : va_P G.1 vwCl [(x, .inr (11, [.ref x_0, .int 0, .ref sp, .ref stm, .ref pl, .ref sk, .ref se, .ref ch, .int 0, .int (-1), .long 1, .ref x_11, .int 0, .ref x_13])), (pl, .inr (4, [.ref ho, .ref pl_1, .int 0, .int (-1), .int (-1), .ref pl_5])), (ho, .inr (2, [.ref fl, .ref pe, .ref ru, .int 0, .ref ho_4, .ref ho_5, .ref ho_6, .int 0, .ref ho_8, .ref ho_9, .ref ho_10, .ref ho_11, .ref ho_12, .int 50])), (pe, .inr (3, [.int 0, .ref pe_1, .ref pe_2, .ref pe_3, .ref pe_4, .ref pe_5, .ref pe_6, .ref pe_7, .ref pe_8, .ref pe_9, .ref pe_10])), (fl, .inr (1, [.int 0, .int 0, .int 0, .ref fl_3, .ref fl_4, .ref fl_5, .ref fl_6, .ref fl_7]))] H) (hD : va_D A [(x, .inr (11, [.ref x_0, .int 0, .ref sp, .ref stm, .ref pl, .ref sk, .ref se, .ref ch, .int 0, .int (-1), .long 1, .ref x_11, .int 0, .ref x_13])), (pl, .inr (4, [.ref ho, .ref pl_1, .int 0, .int (-1), .int (-1), .ref pl_5])), (ho, .inr (2, [.ref fl, .ref pe, .ref ru, .int 0, .ref ho_4, .ref ho_5, .ref ho_6, .int 0, .ref ho_8, .ref ho_9, .ref ho_10, .ref ho_11, .ref ho_12, .int 50])), (pe, .inr (3, [.int 0, .ref pe_1, .ref pe_2, .ref pe_3, .ref pe_4, .ref pe_5, .ref pe_6, .ref pe_7, .ref pe_8, .ref pe_9, .ref pe_10])), (fl, .inr (1, [.int 0, .int 0, .int 0, .ref fl_3, .ref fl_4, .ref fl_5, .ref fl_6, .ref fl_7]))]) hS => ?_)
  subst hwr2
  refine lv_if_eq (tgt := 15) hx hb dX11_seat_4 (by decide) (fun c3 => ?_) (fun c3 => ?_)
  · refine lv_iconst (v := (-1)) hx hb dX11_seat_15 (by decide) ?_
    exact r_i F hr hlk hP hD hS () [] rfl rfl rfl dX11_seat_16 (Nat.le_of_ble_eq_true rfl) (Nat.le_of_ble_eq_true rfl)
  · refine lv_aload_n hx hb dX11_seat_7 rfl (lv_at hl 0 rfl) ?_
    refine lv_iload_n hx hb dX11_seat_8 rfl (lv_at hl 2 rfl) ?_
    refine cvi (wr := [(fl, .inr (1, [.int 0, .int 0, .int 0, .ref fl_3, .ref fl_4, .ref fl_5, .ref fl_6, .ref fl_7]))]) (As := [.int b]) (rest := []) (b := x) (k1 := 0) (s1 := 0) F hK hP hD hS hA (k_X11_isPerson l G x b x_0 sp stm pl sk se ch x_11 x_13 ho pl_1 pl_5 fl pe ru ho_4 ho_5 ho_6 ho_8 ho_9 ho_10 ho_11 ho_12 pe_1 pe_2 pe_3 pe_4 pe_5 pe_6 pe_7 pe_8 pe_9 pe_10) kmV_X11_isPerson mlX11_184 clX11 rfl 0 rfl ⟨(Nat.le_of_ble_eq_true rfl), (Nat.le_of_ble_eq_true rfl)⟩ [0, 1, 2, 3] [4] rfl rfl rfl rfl (by decide) hl.1 rfl (Nat.le_of_ble_eq_true rfl) dX11_seat_9 ⟨(Nat.le_of_ble_eq_true rfl), (Nat.le_of_ble_eq_true rfl)⟩ rfl rfl (fun r5 u4 H locs hwr5 (hP : va_P G.1 vwCl [(fl, .inr (1, [.int 0, .int 0, .int 0, .ref fl_3, .ref fl_4, .ref fl_5, .ref fl_6, .ref fl_7])), (x, .inr (11, [.ref x_0, .int 0, .ref sp, .ref stm, .ref pl, .ref sk, .ref se, .ref ch, .int 0, .int (-1), .long 1, .ref x_11, .int 0, .ref x_13])), (pl, .inr (4, [.ref ho, .ref pl_1, .int 0, .int (-1), .int (-1), .ref pl_5])), (ho, .inr (2, [.ref fl, .ref pe, .ref ru, .int 0, .ref ho_4, .ref ho_5, .ref ho_6, .int 0, .ref ho_8, .ref ho_9, .ref ho_10, .ref ho_11, .ref ho_12, .int 50])), (pe, .inr (3, [.int 0, .ref pe_1, .ref pe_2, .ref pe_3, .ref pe_4, .ref pe_5, .ref pe_6, .ref pe_7, .ref pe_8, .ref pe_9, .ref pe_10]))] H) (hD : va_D A [(fl, .inr (1, [.int 0, .int 0, .int 0, .ref fl_3, .ref fl_4, .ref fl_5, .ref fl_6, .ref fl_7])), (x, .inr (11, [.ref x_0, .int 0, .ref sp, .ref stm, .ref pl, .ref sk, .ref se, .ref ch, .int 0, .int (-1), .long 1, .ref x_11, .int 0, .ref x_13])), (pl, .inr (4, [.ref ho, .ref pl_1, .int 0, .int (-1), .int (-1), .ref pl_5])), (ho, .inr (2, [.ref fl, .ref pe, .ref ru, .int 0, .ref ho_4, .ref ho_5, .ref ho_6, .int 0, .ref ho_8, .ref ho_9, .ref ho_10, .ref ho_11, .ref ho_12, .int 50])), (pe, .inr (3, [.int 0, .ref pe_1, .ref pe_2, .ref pe_3, .ref pe_4, .ref pe_5, .ref pe_6, .ref pe_7, .ref pe_8, .ref pe_9, .ref pe_10]))]) hS => ?_)
    subst hwr5
    refine lv_if_ne (tgt := 17) hx hb dX11_seat_12 (by decide) (fun h_ => absurd (by decide +kernel) h_) (fun _ => ?_)
    refine lv_iconst (v := (-1)) hx hb dX11_seat_15 (by decide) ?_
    exact r_i F hr hlk hP hD hS () [] rfl rfl rfl dX11_seat_16 (Nat.le_of_ble_eq_true rfl) (Nat.le_of_ble_eq_true rfl)
set_option maxHeartbeats 4000000 in
set_option maxRecDepth 100000 in
theorem k_X11_shut (l : Launch) (G : Gx) (x : Nat) (a : Int32) (x_0 : Nat) (sp : Nat) (stm : Nat) (pl : Nat) (sk : Nat) (se : Nat) (ch : Nat) (x_11 : Nat) (x_13 : Nat) (ho : Nat) (pl_1 : Nat) (pl_5 : Nat) (fl : Nat) (pe : Nat) (ru : Nat) (ho_4 : Nat) (ho_5 : Nat) (ho_6 : Nat) (ho_8 : Nat) (ho_9 : Nat) (ho_10 : Nat) (ho_11 : Nat) (ho_12 : Nat) (pe_1 : Nat) (pe_2 : Nat) (pe_3 : Nat) (pe_4 : Nat) (pe_5 : Nat) (pe_6 : Nat) (pe_7 : Nat) (pe_8 : Nat) (pe_9 : Nat) (pe_10 : Nat) (fl_3 : Nat) (fl_4 : Nat) (fl_5 : Nat) (fl_6 : Nat) (fl_7 : Nat) (se_1 : Nat) (se_2 : Nat)  : CtI (S := Unit) l yX11_shut cX11_shut 2 (some .int) (rmD 3 0 0) G [.ref x, .int a] [(x, .inr (11, [.ref x_0, .int 0, .ref sp, .ref stm, .ref pl, .ref sk, .ref se, .ref ch, .int 0, .int (-1), .long 1, .ref x_11, .int 0, .ref x_13])), (pl, .inr (4, [.ref ho, .ref pl_1, .int 0, .int (-1), .int (-1), .ref pl_5])), (ho, .inr (2, [.ref fl, .ref pe, .ref ru, .int 0, .ref ho_4, .ref ho_5, .ref ho_6, .int 0, .ref ho_8, .ref ho_9, .ref ho_10, .ref ho_11, .ref ho_12, .int 50])), (pe, .inr (3, [.int 0, .ref pe_1, .ref pe_2, .ref pe_3, .ref pe_4, .ref pe_5, .ref pe_6, .ref pe_7, .ref pe_8, .ref pe_9, .ref pe_10])), (fl, .inr (1, [.int 0, .int 0, .int 0, .ref fl_3, .ref fl_4, .ref fl_5, .ref fl_6, .ref fl_7])), (se, .inr (8, [.ref pl, .ref se_1, .ref se_2]))] (fun r _ => r = (-1)) (fun _ => []) := by
  refine ctI_of (own := RX11) (by decide +kernel) rfl (Nat.le_of_ble_eq_true rfl) ?_
  intro p e s m below meth c A ls F hr hlk hnm hK hP hD hA hS hl
  have hx := F.1
  have hb := F.2.1
  have hown := F.2.2.2.1
  have hl : lv_has ls 2 [(0, .ref x), (1, .int a)] := hl
  refine lv_iload_n hx hb dX11_shut_0 rfl (lv_at hl 1 rfl) ?_
  refine csi (wr := [(x, .inr (11, [.ref x_0, .int 0, .ref sp, .ref stm, .ref pl, .ref sk, .ref se, .ref ch, .int 0, .int (-1), .long 1, .ref x_11, .int 0, .ref x_13])), (pl, .inr (4, [.ref ho, .ref pl_1, .int 0, .int (-1), .int (-1), .ref pl_5])), (ho, .inr (2, [.ref fl, .ref pe, .ref ru, .int 0, .ref ho_4, .ref ho_5, .ref ho_6, .int 0, .ref ho_8, .ref ho_9, .ref ho_10, .ref ho_11, .ref ho_12, .int 50])), (pe, .inr (3, [.int 0, .ref pe_1, .ref pe_2, .ref pe_3, .ref pe_4, .ref pe_5, .ref pe_6, .ref pe_7, .ref pe_8, .ref pe_9, .ref pe_10])), (fl, .inr (1, [.int 0, .int 0, .int 0, .ref fl_3, .ref fl_4, .ref fl_5, .ref fl_6, .ref fl_7])), (se, .inr (8, [.ref pl, .ref se_1, .ref se_2]))]) (As := [.int a]) (rest := []) (k1 := 0) (s1 := 0) F hK hP hD hS hA (k_X11_isDay l G a) kmS_X11_isDay mlX11_230 ⟨(Nat.le_of_ble_eq_true rfl), (Nat.le_of_ble_eq_true rfl)⟩ [] [0, 1, 2, 3, 4, 5] rfl rfl rfl rfl (by decide) hl.1 rfl (Nat.le_of_ble_eq_true rfl) dX11_shut_1 ⟨(Nat.le_of_ble_eq_true rfl), (Nat.le_of_ble_eq_true rfl)⟩ rfl rfl (fun r2 u1 H locs hwr2 (hP : va_P G.1 vwCl [(x, .inr (11, [.ref x_0, .int 0, .ref sp, .ref stm, .ref pl, .ref sk, .ref se, .ref ch, .int 0, .int (-1), .long 1, .ref x_11, .int 0, .ref x_13])), (pl, .inr (4, [.ref ho, .ref pl_1, .int 0, .int (-1), .int (-1), .ref pl_5])), (ho, .inr (2, [.ref fl, .ref pe, .ref ru, .int 0, .ref ho_4, .ref ho_5, .ref ho_6, .int 0, .ref ho_8, .ref ho_9, .ref ho_10, .ref ho_11, .ref ho_12, .int 50])), (pe, .inr (3, [.int 0, .ref pe_1, .ref pe_2, .ref pe_3, .ref pe_4, .ref pe_5, .ref pe_6, .ref pe_7, .ref pe_8, .ref pe_9, .ref pe_10])), (fl, .inr (1, [.int 0, .int 0, .int 0, .ref fl_3, .ref fl_4, .ref fl_5, .ref fl_6, .ref fl_7])), (se, .inr (8, [.ref pl, .ref se_1, .ref se_2]))] H) (hD : va_D A [(x, .inr (11, [.ref x_0, .int 0, .ref sp, .ref stm, .ref pl, .ref sk, .ref se, .ref ch, .int 0, .int (-1), .long 1, .ref x_11, .int 0, .ref x_13])), (pl, .inr (4, [.ref ho, .ref pl_1, .int 0, .int (-1), .int (-1), .ref pl_5])), (ho, .inr (2, [.ref fl, .ref pe, .ref ru, .int 0, .ref ho_4, .ref ho_5, .ref ho_6, .int 0, .ref ho_8, .ref ho_9, .ref ho_10, .ref ho_11, .ref ho_12, .int 50])), (pe, .inr (3, [.int 0, .ref pe_1, .ref pe_2, .ref pe_3, .ref pe_4, .ref pe_5, .ref pe_6, .ref pe_7, .ref pe_8, .ref pe_9, .ref pe_10])), (fl, .inr (1, [.int 0, .int 0, .int 0, .ref fl_3, .ref fl_4, .ref fl_5, .ref fl_6, .ref fl_7])), (se, .inr (8, [.ref pl, .ref se_1, .ref se_2]))]) hS => ?_)
  subst hwr2
  refine lv_if_eq (tgt := 18) hx hb dX11_shut_4 (by decide) (fun c3 => ?_) (fun c3 => ?_)
  · refine lv_iconst (v := (-1)) hx hb dX11_shut_18 (by decide) ?_
    exact r_i F hr hlk hP hD hS () [] rfl rfl rfl dX11_shut_19 (Nat.le_of_ble_eq_true rfl) (Nat.le_of_ble_eq_true rfl)
  · refine lv_aload_n hx hb dX11_shut_7 rfl (lv_at hl 0 rfl) ?_
    refine g_get F hK hP 0 rfl clX11 6 (by decide) flX11_59 rfl dX11_shut_8 ?_
    refine lv_iload_n hx hb dX11_shut_11 rfl (lv_at hl 1 rfl) ?_
    refine cvi (wr := [(x, .inr (11, [.ref x_0, .int 0, .ref sp, .ref stm, .ref pl, .ref sk, .ref se, .ref ch, .int 0, .int (-1), .long 1, .ref x_11, .int 0, .ref x_13]))]) (As := [.int a]) (rest := []) (b := se) (k1 := 0) (s1 := 0) F hK hP hD hS hA (k_X8_dearestToShut l G se a pl se_1 se_2 ho pl_1 pl_5 fl pe ru ho_4 ho_5 ho_6 ho_8 ho_9 ho_10 ho_11 ho_12 pe_1 pe_2 pe_3 pe_4 pe_5 pe_6 pe_7 pe_8 pe_9 pe_10 fl_3 fl_4 fl_5 fl_6 fl_7) kmV_X8_dearestToShut mlX11_361 clX8 rfl 0 rfl ⟨(Nat.le_of_ble_eq_true rfl), (Nat.le_of_ble_eq_true rfl)⟩ [5, 1, 2, 3, 4] [0] rfl rfl rfl rfl (by decide) hl.1 rfl (Nat.le_of_ble_eq_true rfl) dX11_shut_12 ⟨(Nat.le_of_ble_eq_true rfl), (Nat.le_of_ble_eq_true rfl)⟩ rfl rfl (fun r5 u4 H locs hwr5 (hP : va_P G.1 vwCl [(x, .inr (11, [.ref x_0, .int 0, .ref sp, .ref stm, .ref pl, .ref sk, .ref se, .ref ch, .int 0, .int (-1), .long 1, .ref x_11, .int 0, .ref x_13])), (se, .inr (8, [.ref pl, .ref se_1, .ref se_2])), (pl, .inr (4, [.ref ho, .ref pl_1, .int 0, .int (-1), .int (-1), .ref pl_5])), (ho, .inr (2, [.ref fl, .ref pe, .ref ru, .int 0, .ref ho_4, .ref ho_5, .ref ho_6, .int 0, .ref ho_8, .ref ho_9, .ref ho_10, .ref ho_11, .ref ho_12, .int 50])), (pe, .inr (3, [.int 0, .ref pe_1, .ref pe_2, .ref pe_3, .ref pe_4, .ref pe_5, .ref pe_6, .ref pe_7, .ref pe_8, .ref pe_9, .ref pe_10])), (fl, .inr (1, [.int 0, .int 0, .int 0, .ref fl_3, .ref fl_4, .ref fl_5, .ref fl_6, .ref fl_7]))] H) (hD : va_D A [(x, .inr (11, [.ref x_0, .int 0, .ref sp, .ref stm, .ref pl, .ref sk, .ref se, .ref ch, .int 0, .int (-1), .long 1, .ref x_11, .int 0, .ref x_13])), (se, .inr (8, [.ref pl, .ref se_1, .ref se_2])), (pl, .inr (4, [.ref ho, .ref pl_1, .int 0, .int (-1), .int (-1), .ref pl_5])), (ho, .inr (2, [.ref fl, .ref pe, .ref ru, .int 0, .ref ho_4, .ref ho_5, .ref ho_6, .int 0, .ref ho_8, .ref ho_9, .ref ho_10, .ref ho_11, .ref ho_12, .int 50])), (pe, .inr (3, [.int 0, .ref pe_1, .ref pe_2, .ref pe_3, .ref pe_4, .ref pe_5, .ref pe_6, .ref pe_7, .ref pe_8, .ref pe_9, .ref pe_10])), (fl, .inr (1, [.int 0, .int 0, .int 0, .ref fl_3, .ref fl_4, .ref fl_5, .ref fl_6, .ref fl_7]))]) hS => ?_)
    subst hwr5
    refine lv_goto (tgt := 19) hx hb dX11_shut_15 (by decide) ?_
    exact r_i F hr hlk hP hD hS () [] rfl rfl rfl dX11_shut_19 (Nat.le_of_ble_eq_true rfl) (Nat.le_of_ble_eq_true rfl)
set_option maxHeartbeats 4000000 in
set_option maxRecDepth 100000 in
theorem k_X11_move (l : Launch) (G : Gx) (x : Nat) (a : Int32) (x_0 : Nat) (sp : Nat) (stm : Nat) (pl : Nat) (sk : Nat) (se : Nat) (ch : Nat) (x_11 : Nat) (x_13 : Nat) (ho : Nat) (pl_1 : Nat) (pl_5 : Nat) (fl : Nat) (pe : Nat) (ru : Nat) (ho_4 : Nat) (ho_5 : Nat) (ho_6 : Nat) (ho_8 : Nat) (ho_9 : Nat) (ho_10 : Nat) (ho_11 : Nat) (ho_12 : Nat) (pe_1 : Nat) (pe_2 : Nat) (pe_3 : Nat) (pe_4 : Nat) (pe_5 : Nat) (pe_6 : Nat) (pe_7 : Nat) (pe_8 : Nat) (pe_9 : Nat) (pe_10 : Nat) (fl_3 : Nat) (fl_4 : Nat) (fl_5 : Nat) (fl_6 : Nat) (fl_7 : Nat)  : CtI (S := Unit) l yX11_move cX11_move 2 (some .int) (rmD 3 0 0) G [.ref x, .int a] [(x, .inr (11, [.ref x_0, .int 0, .ref sp, .ref stm, .ref pl, .ref sk, .ref se, .ref ch, .int 0, .int (-1), .long 1, .ref x_11, .int 0, .ref x_13])), (pl, .inr (4, [.ref ho, .ref pl_1, .int 0, .int (-1), .int (-1), .ref pl_5])), (ho, .inr (2, [.ref fl, .ref pe, .ref ru, .int 0, .ref ho_4, .ref ho_5, .ref ho_6, .int 0, .ref ho_8, .ref ho_9, .ref ho_10, .ref ho_11, .ref ho_12, .int 50])), (pe, .inr (3, [.int 0, .ref pe_1, .ref pe_2, .ref pe_3, .ref pe_4, .ref pe_5, .ref pe_6, .ref pe_7, .ref pe_8, .ref pe_9, .ref pe_10])), (fl, .inr (1, [.int 0, .int 0, .int 0, .ref fl_3, .ref fl_4, .ref fl_5, .ref fl_6, .ref fl_7]))] (fun r _ => r = (-1)) (fun _ => []) := by
  refine ctI_of (own := RX11) (by decide +kernel) rfl (Nat.le_of_ble_eq_true rfl) ?_
  intro p e s m below meth c A ls F hr hlk hnm hK hP hD hA hS hl
  have hx := F.1
  have hb := F.2.1
  have hown := F.2.2.2.1
  have hl : lv_has ls 2 [(0, .ref x), (1, .int a)] := hl
  refine lv_aload_n hx hb dX11_move_0 rfl (lv_at hl 0 rfl) ?_
  refine lv_iload_n hx hb dX11_move_1 rfl (lv_at hl 1 rfl) ?_
  refine cvi (wr := [(fl, .inr (1, [.int 0, .int 0, .int 0, .ref fl_3, .ref fl_4, .ref fl_5, .ref fl_6, .ref fl_7]))]) (As := [.int a]) (rest := []) (b := x) (k1 := 0) (s1 := 0) F hK hP hD hS hA (k_X11_isPerson l G x a x_0 sp stm pl sk se ch x_11 x_13 ho pl_1 pl_5 fl pe ru ho_4 ho_5 ho_6 ho_8 ho_9 ho_10 ho_11 ho_12 pe_1 pe_2 pe_3 pe_4 pe_5 pe_6 pe_7 pe_8 pe_9 pe_10) kmV_X11_isPerson mlX11_184 clX11 rfl 0 rfl ⟨(Nat.le_of_ble_eq_true rfl), (Nat.le_of_ble_eq_true rfl)⟩ [0, 1, 2, 3] [4] rfl rfl rfl rfl (by decide) hl.1 rfl (Nat.le_of_ble_eq_true rfl) dX11_move_2 ⟨(Nat.le_of_ble_eq_true rfl), (Nat.le_of_ble_eq_true rfl)⟩ rfl rfl (fun r2 u1 H locs hwr2 (hP : va_P G.1 vwCl [(fl, .inr (1, [.int 0, .int 0, .int 0, .ref fl_3, .ref fl_4, .ref fl_5, .ref fl_6, .ref fl_7])), (x, .inr (11, [.ref x_0, .int 0, .ref sp, .ref stm, .ref pl, .ref sk, .ref se, .ref ch, .int 0, .int (-1), .long 1, .ref x_11, .int 0, .ref x_13])), (pl, .inr (4, [.ref ho, .ref pl_1, .int 0, .int (-1), .int (-1), .ref pl_5])), (ho, .inr (2, [.ref fl, .ref pe, .ref ru, .int 0, .ref ho_4, .ref ho_5, .ref ho_6, .int 0, .ref ho_8, .ref ho_9, .ref ho_10, .ref ho_11, .ref ho_12, .int 50])), (pe, .inr (3, [.int 0, .ref pe_1, .ref pe_2, .ref pe_3, .ref pe_4, .ref pe_5, .ref pe_6, .ref pe_7, .ref pe_8, .ref pe_9, .ref pe_10]))] H) (hD : va_D A [(fl, .inr (1, [.int 0, .int 0, .int 0, .ref fl_3, .ref fl_4, .ref fl_5, .ref fl_6, .ref fl_7])), (x, .inr (11, [.ref x_0, .int 0, .ref sp, .ref stm, .ref pl, .ref sk, .ref se, .ref ch, .int 0, .int (-1), .long 1, .ref x_11, .int 0, .ref x_13])), (pl, .inr (4, [.ref ho, .ref pl_1, .int 0, .int (-1), .int (-1), .ref pl_5])), (ho, .inr (2, [.ref fl, .ref pe, .ref ru, .int 0, .ref ho_4, .ref ho_5, .ref ho_6, .int 0, .ref ho_8, .ref ho_9, .ref ho_10, .ref ho_11, .ref ho_12, .int 50])), (pe, .inr (3, [.int 0, .ref pe_1, .ref pe_2, .ref pe_3, .ref pe_4, .ref pe_5, .ref pe_6, .ref pe_7, .ref pe_8, .ref pe_9, .ref pe_10]))]) hS => ?_)
  subst hwr2
  refine lv_if_eq (tgt := 19) hx hb dX11_move_5 (by decide) (fun _ => ?_) (fun h_ => absurd (by decide +kernel) h_)
  refine lv_iconst (v := (-1)) hx hb dX11_move_19 (by decide) ?_
  exact r_i F hr hlk hP hD hS () [] rfl rfl rfl dX11_move_20 (Nat.le_of_ble_eq_true rfl) (Nat.le_of_ble_eq_true rfl)
set_option maxHeartbeats 4000000 in
set_option maxRecDepth 100000 in
theorem k_X11_octet (l : Launch) (G : Gx) (x : Nat) (a : Int32) (x_0 : Nat) (sp : Nat) (stm : Nat) (pl : Nat) (sk : Nat) (se : Nat) (ch : Nat) (x_11 : Nat) (x_13 : Nat)  : CtI (S := Unit) l yX11_octet cX11_octet 2 (some .int) (rmD 2 0 0) G [.ref x, .int a] [(x, .inr (11, [.ref x_0, .int 0, .ref sp, .ref stm, .ref pl, .ref sk, .ref se, .ref ch, .int 0, .int (-1), .long 1, .ref x_11, .int 0, .ref x_13]))] (fun r _ => r = (-1)) (fun _ => []) := by
  refine ctI_of (own := RX11) (by decide +kernel) rfl (Nat.le_of_ble_eq_true rfl) ?_
  intro p e s m below meth c A ls F hr hlk hnm hK hP hD hA hS hl
  have hx := F.1
  have hb := F.2.1
  have hown := F.2.2.2.1
  have hl : lv_has ls 2 [(0, .ref x), (1, .int a)] := hl
  refine lv_iload_n hx hb dX11_octet_0 rfl (lv_at hl 1 rfl) ?_
  refine lv_aload_n hx hb dX11_octet_1 rfl (lv_at hl 0 rfl) ?_
  refine g_get F hK hP 0 rfl clX11 12 (by decide) flX11_83 rfl dX11_octet_2 ?_
  refine csi (wr := [(x, .inr (11, [.ref x_0, .int 0, .ref sp, .ref stm, .ref pl, .ref sk, .ref se, .ref ch, .int 0, .int (-1), .long 1, .ref x_11, .int 0, .ref x_13]))]) (As := [.int a, .int 0]) (rest := []) (k1 := 0) (s1 := 0) F hK hP hD hS hA (k_X11_isBelow l G a 0) kmS_X11_isBelow mlX11_169 ⟨(Nat.le_of_ble_eq_true rfl), (Nat.le_of_ble_eq_true rfl)⟩ [] [0] rfl rfl rfl rfl (by decide) hl.1 rfl (Nat.le_of_ble_eq_true rfl) dX11_octet_5 ⟨(Nat.le_of_ble_eq_true rfl), (Nat.le_of_ble_eq_true rfl)⟩ rfl rfl (fun r2 u1 H locs hwr2 (hP : va_P G.1 vwCl [(x, .inr (11, [.ref x_0, .int 0, .ref sp, .ref stm, .ref pl, .ref sk, .ref se, .ref ch, .int 0, .int (-1), .long 1, .ref x_11, .int 0, .ref x_13]))] H) (hD : va_D A [(x, .inr (11, [.ref x_0, .int 0, .ref sp, .ref stm, .ref pl, .ref sk, .ref se, .ref ch, .int 0, .int (-1), .long 1, .ref x_11, .int 0, .ref x_13]))]) hS => ?_)
  subst hwr2
  refine cst_i (y := 0) (isB_0 _) ?_
  refine lv_if_eq (tgt := 20) hx hb dX11_octet_8 (by decide) (fun _ => ?_) (fun h_ => absurd (by decide +kernel) h_)
  refine lv_iconst (v := (-1)) hx hb dX11_octet_20 (by decide) ?_
  exact r_i F hr hlk hP hD hS () [] rfl rfl rfl dX11_octet_21 (Nat.le_of_ble_eq_true rfl) (Nat.le_of_ble_eq_true rfl)
set_option maxHeartbeats 4000000 in
set_option maxRecDepth 100000 in
theorem k_X11_status (l : Launch) (G : Gx) (x : Nat) (a : Int32) (x_0 : Nat) (sp : Nat) (stm : Nat) (pl : Nat) (sk : Nat) (se : Nat) (ch : Nat) (x_11 : Nat) (x_13 : Nat)  : CtI (S := Unit) l yX11_status cX11_status 2 (some .int) (rmD 2 0 0) G [.ref x, .int a] [(x, .inr (11, [.ref x_0, .int 0, .ref sp, .ref stm, .ref pl, .ref sk, .ref se, .ref ch, .int 0, .int (-1), .long 1, .ref x_11, .int 0, .ref x_13])), (x_13, .inl (G.2.1, 6, .inl (fun _ => 0)))] (fun r _ => r = fStatus a) (fun _ => []) := by
  refine ctI_of (own := RX11) (by decide +kernel) rfl (Nat.le_of_ble_eq_true rfl) ?_
  intro p e s m below meth c A ls F hr hlk hnm hK hP hD hA hS hl
  have hx := F.1
  have hb := F.2.1
  have hown := F.2.2.2.1
  have hl : lv_has ls 2 [(0, .ref x), (1, .int a)] := hl
  refine lv_iload_n hx hb dX11_status_0 rfl (lv_at hl 1 rfl) ?_
  refine lv_bipush (v := 6) hx hb dX11_status_1 (by decide) ?_
  refine csi (wr := [(x, .inr (11, [.ref x_0, .int 0, .ref sp, .ref stm, .ref pl, .ref sk, .ref se, .ref ch, .int 0, .int (-1), .long 1, .ref x_11, .int 0, .ref x_13])), (x_13, .inl (G.2.1, 6, .inl (fun _ => 0)))]) (As := [.int a, .int 6]) (rest := []) (k1 := 0) (s1 := 0) F hK hP hD hS hA (k_X11_isBelow l G a 6) kmS_X11_isBelow mlX11_169 ⟨(Nat.le_of_ble_eq_true rfl), (Nat.le_of_ble_eq_true rfl)⟩ [] [0, 1] rfl rfl rfl rfl (by decide) hl.1 rfl (Nat.le_of_ble_eq_true rfl) dX11_status_3 ⟨(Nat.le_of_ble_eq_true rfl), (Nat.le_of_ble_eq_true rfl)⟩ rfl rfl (fun r2 u1 H locs hwr2 (hP : va_P G.1 vwCl [(x, .inr (11, [.ref x_0, .int 0, .ref sp, .ref stm, .ref pl, .ref sk, .ref se, .ref ch, .int 0, .int (-1), .long 1, .ref x_11, .int 0, .ref x_13])), (x_13, .inl (G.2.1, 6, .inl (fun _ => 0)))] H) (hD : va_D A [(x, .inr (11, [.ref x_0, .int 0, .ref sp, .ref stm, .ref pl, .ref sk, .ref se, .ref ch, .int 0, .int (-1), .long 1, .ref x_11, .int 0, .ref x_13])), (x_13, .inl (G.2.1, 6, .inl (fun _ => 0)))]) hS => ?_)
  subst hwr2
  refine lv_if_eq (tgt := 18) hx hb dX11_status_6 (by decide) (fun c3 => ?_) (fun c3 => ?_)
  · refine lv_iconst (v := (-1)) hx hb dX11_status_18 (by decide) ?_
    exact r_i F hr hlk hP hD hS () [] rfl rfl (by simp [fStatus, c3]) dX11_status_19 (Nat.le_of_ble_eq_true rfl) (Nat.le_of_ble_eq_true rfl)
  · refine lv_aload_n hx hb dX11_status_9 rfl (lv_at hl 0 rfl) ?_
    refine g_get F hK hP 0 rfl clX11 13 (by decide) flX11_86 rfl dX11_status_10 ?_
    refine lv_iload_n hx hb dX11_status_13 rfl (lv_at hl 1 rfl) ?_
    refine g_iald (v := 0) F hK hP 1 rfl (isB_in c3 rfl) dX11_status_14 rfl ?_
    refine lv_goto (tgt := 19) hx hb dX11_status_15 (by decide) ?_
    exact r_i F hr hlk hP hD hS () [] rfl rfl (by simp [fStatus, c3]) dX11_status_19 (Nat.le_of_ble_eq_true rfl) (Nat.le_of_ble_eq_true rfl)
set_option maxHeartbeats 4000000 in
set_option maxRecDepth 100000 in
theorem k_X11_end (l : Launch) (G : Gx) (x : Nat) (a : Int32) (x_0 : Nat) (sp : Nat) (stm : Nat) (pl : Nat) (sk : Nat) (se : Nat) (ch : Nat) (x_11 : Nat) (x_13 : Nat)  : CtI (S := Unit) l yX11_end cX11_end 2 (some .boolean) (rmD 2 0 0) G [.ref x, .int a] [(x, .inr (11, [.ref x_0, .int 0, .ref sp, .ref stm, .ref pl, .ref sk, .ref se, .ref ch, .int 0, .int (-1), .long 1, .ref x_11, .int 0, .ref x_13])), (x_13, .inl (G.2.1, 6, .inl (fun _ => 0)))] (fun r _ => r = fEnd a) (fun _ => []) := by
  refine ctI_of (own := RX11) (by decide +kernel) rfl (Nat.le_of_ble_eq_true rfl) ?_
  intro p e s m below meth c A ls F hr hlk hnm hK hP hD hA hS hl
  have hx := F.1
  have hb := F.2.1
  have hown := F.2.2.2.1
  have hl : lv_has ls 2 [(0, .ref x), (1, .int a)] := hl
  refine lv_iload_n hx hb dX11_end_0 rfl (lv_at hl 1 rfl) ?_
  refine lv_if_lt (tgt := 12) hx hb dX11_end_1 (by decide) (fun c1 => ?_) (fun c1 => ?_)
  · refine lv_aload_n hx hb dX11_end_12 rfl (lv_at hl 0 rfl) ?_
    refine lv_iconst (v := 0) hx hb dX11_end_13 (by decide) ?_
    refine cvi (wr := []) (As := [.int 0]) (rest := []) (b := x) (k1 := 0) (s1 := 0) F hK hP hD hS hA (k_X11_refuse l G x 0 x_0 sp stm pl sk se ch x_11 x_13 (vin (by decide +kernel))) kmV_X11_refuse mlX11_89 clX11 rfl 0 rfl ⟨(Nat.le_of_ble_eq_true rfl), (Nat.le_of_ble_eq_true rfl)⟩ [0, 1] [] rfl rfl rfl rfl (by decide) hl.1 rfl (Nat.le_of_ble_eq_true rfl) dX11_end_14 ⟨(Nat.le_of_ble_eq_true rfl), (Nat.le_of_ble_eq_true rfl)⟩ rfl rfl (fun r3 u2 H locs hwr3 (hP : va_P G.1 vwCl [(x, .inr (11, [.ref x_0, .int 0, .ref sp, .ref stm, .ref pl, .ref sk, .ref se, .ref ch, .int 0, .int (-1), .long 1, .ref x_11, .int 0, .ref x_13]))] H) (hD : va_D A [(x, .inr (11, [.ref x_0, .int 0, .ref sp, .ref stm, .ref pl, .ref sk, .ref se, .ref ch, .int 0, .int (-1), .long 1, .ref x_11, .int 0, .ref x_13]))]) hS => ?_)
    subst hwr3
    refine lv_pop hx hb dX11_end_17 rfl ?_
    refine lv_iconst (v := 0) hx hb dX11_end_18 (by decide) ?_
    exact r_z F hr hlk hP hD hS () [] rfl rfl (by simp [fEnd, c1]) dX11_end_19 (Nat.le_of_ble_eq_true rfl) (Nat.le_of_ble_eq_true rfl) (by decide)
  · refine lv_iload_n hx hb dX11_end_4 rfl (lv_at hl 1 rfl) ?_
    refine lv_aload_n hx hb dX11_end_5 rfl (lv_at hl 0 rfl) ?_
    refine g_get F hK hP 0 rfl clX11 1 (by decide) flX11_13 rfl dX11_end_6 ?_
    refine lv_icmp_le (tgt := 20) hx hb dX11_end_9 (by decide) (fun c4 => ?_) (fun c4 => ?_)
    · refine lv_aload_n hx hb dX11_end_20 rfl (lv_at hl 0 rfl) ?_
      refine lv_iload_n hx hb dX11_end_21 rfl (lv_at hl 1 rfl) ?_
      refine g_put (w' := [(x, .inr (11, [.ref x_0, .int a, .ref sp, .ref stm, .ref pl, .ref sk, .ref se, .ref ch, .int 0, .int (-1), .long 1, .ref x_11, .int 0, .ref x_13])), (x_13, .inl (G.2.1, 6, .inl (fun _ => 0)))]) F hK hP hD hS 0 rfl clX11 1 (by decide) flX11_13 rfl rfl rfl (Nat.le_of_ble_eq_true rfl) dX11_end_22 rfl (fun H locs hP hD hS => ?_)
      refine lv_iconst (v := 1) hx hb dX11_end_25 (by decide) ?_
      exact r_z F hr hlk hP hD hS () [] rfl rfl (by simp [fEnd, c1, c4]) dX11_end_26 (Nat.le_of_ble_eq_true rfl) (Nat.le_of_ble_eq_true rfl) (by decide)
    · refine lv_aload_n hx hb dX11_end_12 rfl (lv_at hl 0 rfl) ?_
      refine lv_iconst (v := 0) hx hb dX11_end_13 (by decide) ?_
      refine cvi (wr := []) (As := [.int 0]) (rest := []) (b := x) (k1 := 0) (s1 := 0) F hK hP hD hS hA (k_X11_refuse l G x 0 x_0 sp stm pl sk se ch x_11 x_13 (vin (by decide +kernel))) kmV_X11_refuse mlX11_89 clX11 rfl 0 rfl ⟨(Nat.le_of_ble_eq_true rfl), (Nat.le_of_ble_eq_true rfl)⟩ [0, 1] [] rfl rfl rfl rfl (by decide) hl.1 rfl (Nat.le_of_ble_eq_true rfl) dX11_end_14 ⟨(Nat.le_of_ble_eq_true rfl), (Nat.le_of_ble_eq_true rfl)⟩ rfl rfl (fun r6 u5 H locs hwr6 (hP : va_P G.1 vwCl [(x, .inr (11, [.ref x_0, .int 0, .ref sp, .ref stm, .ref pl, .ref sk, .ref se, .ref ch, .int 0, .int (-1), .long 1, .ref x_11, .int 0, .ref x_13]))] H) (hD : va_D A [(x, .inr (11, [.ref x_0, .int 0, .ref sp, .ref stm, .ref pl, .ref sk, .ref se, .ref ch, .int 0, .int (-1), .long 1, .ref x_11, .int 0, .ref x_13]))]) hS => ?_)
      subst hwr6
      refine lv_pop hx hb dX11_end_17 rfl ?_
      refine lv_iconst (v := 0) hx hb dX11_end_18 (by decide) ?_
      exact r_z F hr hlk hP hD hS () [] rfl rfl (by simp [fEnd, c1, c4]) dX11_end_19 (Nat.le_of_ble_eq_true rfl) (Nat.le_of_ble_eq_true rfl) (by decide)
set_option maxHeartbeats 4000000 in
set_option maxRecDepth 100000 in
theorem k_X11_seed (l : Launch) (G : Gx) (x : Nat) (a : Int32) (x_0 : Nat) (sp : Nat) (stm : Nat) (pl : Nat) (sk : Nat) (se : Nat) (ch : Nat) (x_11 : Nat) (x_13 : Nat)  : CtI (S := Unit) l yX11_seed cX11_seed 2 (some .boolean) (rmD 2 0 0) G [.ref x, .int a] [(x, .inr (11, [.ref x_0, .int 0, .ref sp, .ref stm, .ref pl, .ref sk, .ref se, .ref ch, .int 0, .int (-1), .long 1, .ref x_11, .int 0, .ref x_13])), (x_13, .inl (G.2.1, 6, .inl (fun _ => 0)))] (fun r _ => r = fSeed a) (fun _ => []) := by
  refine ctI_of (own := RX11) (by decide +kernel) rfl (Nat.le_of_ble_eq_true rfl) ?_
  intro p e s m below meth c A ls F hr hlk hnm hK hP hD hA hS hl
  have hx := F.1
  have hb := F.2.1
  have hown := F.2.2.2.1
  have hl : lv_has ls 2 [(0, .ref x), (1, .int a)] := hl
  refine lv_iload_n hx hb dX11_seed_0 rfl (lv_at hl 1 rfl) ?_
  refine lv_if_ge (tgt := 12) hx hb dX11_seed_1 (by decide) (fun c1 => ?_) (fun c1 => ?_)
  · refine lv_aload_n hx hb dX11_seed_12 rfl (lv_at hl 0 rfl) ?_
    refine lv_iload_n hx hb dX11_seed_13 rfl (lv_at hl 1 rfl) ?_
    refine lv_i2l (v := (a).toInt64) hx hb dX11_seed_14 rfl ?_
    refine g_put (w' := [(x, .inr (11, [.ref x_0, .int 0, .ref sp, .ref stm, .ref pl, .ref sk, .ref se, .ref ch, .int 0, .int (-1), .long (a).toInt64, .ref x_11, .int 0, .ref x_13])), (x_13, .inl (G.2.1, 6, .inl (fun _ => 0)))]) F hK hP hD hS 0 rfl clX11 10 (by decide) flX11_76 rfl rfl rfl (Nat.le_of_ble_eq_true rfl) dX11_seed_15 rfl (fun H locs hP hD hS => ?_)
    refine lv_iconst (v := 1) hx hb dX11_seed_18 (by decide) ?_
    exact r_z F hr hlk hP hD hS () [] rfl rfl (by simp [fSeed, c1]) dX11_seed_19 (Nat.le_of_ble_eq_true rfl) (Nat.le_of_ble_eq_true rfl) (by decide)
  · refine lv_aload_n hx hb dX11_seed_4 rfl (lv_at hl 0 rfl) ?_
    refine lv_iconst (v := 4) hx hb dX11_seed_5 (by decide) ?_
    refine cvi (wr := []) (As := [.int 4]) (rest := []) (b := x) (k1 := 0) (s1 := 0) F hK hP hD hS hA (k_X11_refuse l G x 4 x_0 sp stm pl sk se ch x_11 x_13 (vin (by decide +kernel))) kmV_X11_refuse mlX11_89 clX11 rfl 0 rfl ⟨(Nat.le_of_ble_eq_true rfl), (Nat.le_of_ble_eq_true rfl)⟩ [0, 1] [] rfl rfl rfl rfl (by decide) hl.1 rfl (Nat.le_of_ble_eq_true rfl) dX11_seed_6 ⟨(Nat.le_of_ble_eq_true rfl), (Nat.le_of_ble_eq_true rfl)⟩ rfl rfl (fun r3 u2 H locs hwr3 (hP : va_P G.1 vwCl [(x, .inr (11, [.ref x_0, .int 0, .ref sp, .ref stm, .ref pl, .ref sk, .ref se, .ref ch, .int 0, .int (-1), .long 1, .ref x_11, .int 0, .ref x_13]))] H) (hD : va_D A [(x, .inr (11, [.ref x_0, .int 0, .ref sp, .ref stm, .ref pl, .ref sk, .ref se, .ref ch, .int 0, .int (-1), .long 1, .ref x_11, .int 0, .ref x_13]))]) hS => ?_)
    subst hwr3
    refine lv_pop hx hb dX11_seed_9 rfl ?_
    refine lv_iconst (v := 0) hx hb dX11_seed_10 (by decide) ?_
    exact r_z F hr hlk hP hD hS () [] rfl rfl (by simp [fSeed, c1]) dX11_seed_11 (Nat.le_of_ble_eq_true rfl) (Nat.le_of_ble_eq_true rfl) (by decide)
set_option maxHeartbeats 4000000 in
set_option maxRecDepth 100000 in
theorem k_X11_never (l : Launch) (G : Gx) (x : Nat) (a : Int32) (x_0 : Nat) (sp : Nat) (stm : Nat) (pl : Nat) (sk : Nat) (se : Nat) (ch : Nat) (x_11 : Nat) (x_13 : Nat) (ho : Nat) (pl_1 : Nat) (pl_5 : Nat) (fl : Nat) (pe : Nat) (ru : Nat) (ho_4 : Nat) (ho_5 : Nat) (ho_6 : Nat) (ho_8 : Nat) (ho_9 : Nat) (ho_10 : Nat) (ho_11 : Nat) (ho_12 : Nat) (pe_1 : Nat) (pe_2 : Nat) (pe_3 : Nat) (pe_4 : Nat) (pe_5 : Nat) (pe_6 : Nat) (pe_7 : Nat) (pe_8 : Nat) (pe_9 : Nat) (pe_10 : Nat) (fl_3 : Nat) (fl_4 : Nat) (fl_5 : Nat) (fl_6 : Nat) (fl_7 : Nat)  : CtI (S := Unit) l yX11_never cX11_never 2 (some .int) (rmD 2 0 0) G [.ref x, .int a] [(x, .inr (11, [.ref x_0, .int 0, .ref sp, .ref stm, .ref pl, .ref sk, .ref se, .ref ch, .int 0, .int (-1), .long 1, .ref x_11, .int 0, .ref x_13])), (pl, .inr (4, [.ref ho, .ref pl_1, .int 0, .int (-1), .int (-1), .ref pl_5])), (ho, .inr (2, [.ref fl, .ref pe, .ref ru, .int 0, .ref ho_4, .ref ho_5, .ref ho_6, .int 0, .ref ho_8, .ref ho_9, .ref ho_10, .ref ho_11, .ref ho_12, .int 50])), (pe, .inr (3, [.int 0, .ref pe_1, .ref pe_2, .ref pe_3, .ref pe_4, .ref pe_5, .ref pe_6, .ref pe_7, .ref pe_8, .ref pe_9, .ref pe_10])), (fl, .inr (1, [.int 0, .int 0, .int 0, .ref fl_3, .ref fl_4, .ref fl_5, .ref fl_6, .ref fl_7]))] (fun r _ => r = fNever a) (fun _ => []) := by
  refine ctI_of (own := RX11) (by decide +kernel) rfl (Nat.le_of_ble_eq_true rfl) ?_
  intro p e s m below meth c A ls F hr hlk hnm hK hP hD hA hS hl
  have hx := F.1
  have hb := F.2.1
  have hown := F.2.2.2.1
  have hl : lv_has ls 2 [(0, .ref x), (1, .int a)] := hl
  refine lv_iload_n hx hb dX11_never_0 rfl (lv_at hl 1 rfl) ?_
  refine lv_iconst (v := 1) hx hb dX11_never_1 (by decide) ?_
  refine lv_icmp_lt (tgt := 22) hx hb dX11_never_2 (by decide) (fun c1 => ?_) (fun c1 => ?_)
  · refine lv_iconst (v := (-1)) hx hb dX11_never_22 (by decide) ?_
    exact r_i F hr hlk hP hD hS () [] rfl rfl (by simp [fNever, c1]) dX11_never_23 (Nat.le_of_ble_eq_true rfl) (Nat.le_of_ble_eq_true rfl)
  · refine lv_iload_n hx hb dX11_never_5 rfl (lv_at hl 1 rfl) ?_
    refine lv_bipush (v := 9) hx hb dX11_never_6 (by decide) ?_
    refine lv_icmp_gt (tgt := 22) hx hb dX11_never_8 (by decide) (fun c2 => ?_) (fun c2 => ?_)
    · refine lv_iconst (v := (-1)) hx hb dX11_never_22 (by decide) ?_
      exact r_i F hr hlk hP hD hS () [] rfl rfl (by simp [fNever, c1, c2]) dX11_never_23 (Nat.le_of_ble_eq_true rfl) (Nat.le_of_ble_eq_true rfl)
    · refine lv_aload_n hx hb dX11_never_11 rfl (lv_at hl 0 rfl) ?_
      refine g_get F hK hP 0 rfl clX11 4 (by decide) flX11_43 rfl dX11_never_12 ?_
      refine lv_iload_n hx hb dX11_never_15 rfl (lv_at hl 1 rfl) ?_
      refine cvi (wr := [(x, .inr (11, [.ref x_0, .int 0, .ref sp, .ref stm, .ref pl, .ref sk, .ref se, .ref ch, .int 0, .int (-1), .long 1, .ref x_11, .int 0, .ref x_13])), (pe, .inr (3, [.int 0, .ref pe_1, .ref pe_2, .ref pe_3, .ref pe_4, .ref pe_5, .ref pe_6, .ref pe_7, .ref pe_8, .ref pe_9, .ref pe_10])), (fl, .inr (1, [.int 0, .int 0, .int 0, .ref fl_3, .ref fl_4, .ref fl_5, .ref fl_6, .ref fl_7]))]) (As := [.int a]) (rest := []) (b := pl) (k1 := 0) (s1 := 0) F hK hP hD hS hA (k_X4_unmetWithin l G pl a ho pl_1 pl_5 fl pe ru ho_4 ho_5 ho_6 ho_8 ho_9 ho_10 ho_11 ho_12) kmV_X4_unmetWithin mlX11_364 clX4 rfl 0 rfl ⟨(Nat.le_of_ble_eq_true rfl), (Nat.le_of_ble_eq_true rfl)⟩ [1, 2] [0, 3, 4] rfl rfl rfl rfl (by decide) hl.1 rfl (Nat.le_of_ble_eq_true rfl) dX11_never_16 ⟨(Nat.le_of_ble_eq_true rfl), (Nat.le_of_ble_eq_true rfl)⟩ rfl rfl (fun r4 u3 H locs hwr4 (hP : va_P G.1 vwCl [(x, .inr (11, [.ref x_0, .int 0, .ref sp, .ref stm, .ref pl, .ref sk, .ref se, .ref ch, .int 0, .int (-1), .long 1, .ref x_11, .int 0, .ref x_13])), (pe, .inr (3, [.int 0, .ref pe_1, .ref pe_2, .ref pe_3, .ref pe_4, .ref pe_5, .ref pe_6, .ref pe_7, .ref pe_8, .ref pe_9, .ref pe_10])), (fl, .inr (1, [.int 0, .int 0, .int 0, .ref fl_3, .ref fl_4, .ref fl_5, .ref fl_6, .ref fl_7])), (pl, .inr (4, [.ref ho, .ref pl_1, .int 0, .int (-1), .int (-1), .ref pl_5])), (ho, .inr (2, [.ref fl, .ref pe, .ref ru, .int 0, .ref ho_4, .ref ho_5, .ref ho_6, .int 0, .ref ho_8, .ref ho_9, .ref ho_10, .ref ho_11, .ref ho_12, .int 50]))] H) (hD : va_D A [(x, .inr (11, [.ref x_0, .int 0, .ref sp, .ref stm, .ref pl, .ref sk, .ref se, .ref ch, .int 0, .int (-1), .long 1, .ref x_11, .int 0, .ref x_13])), (pe, .inr (3, [.int 0, .ref pe_1, .ref pe_2, .ref pe_3, .ref pe_4, .ref pe_5, .ref pe_6, .ref pe_7, .ref pe_8, .ref pe_9, .ref pe_10])), (fl, .inr (1, [.int 0, .int 0, .int 0, .ref fl_3, .ref fl_4, .ref fl_5, .ref fl_6, .ref fl_7])), (pl, .inr (4, [.ref ho, .ref pl_1, .int 0, .int (-1), .int (-1), .ref pl_5])), (ho, .inr (2, [.ref fl, .ref pe, .ref ru, .int 0, .ref ho_4, .ref ho_5, .ref ho_6, .int 0, .ref ho_8, .ref ho_9, .ref ho_10, .ref ho_11, .ref ho_12, .int 50]))]) hS => ?_)
      subst hwr4
      refine lv_goto (tgt := 23) hx hb dX11_never_19 (by decide) ?_
      exact r_i F hr hlk hP hD hS () [] rfl rfl (by simp [fNever, c1, c2]) dX11_never_23 (Nat.le_of_ble_eq_true rfl) (Nat.le_of_ble_eq_true rfl)
set_option maxHeartbeats 4000000 in
set_option maxRecDepth 100000 in
theorem k_X11_weeks (l : Launch) (G : Gx) (x : Nat) (x_0 : Nat) (sp : Nat) (stm : Nat) (pl : Nat) (sk : Nat) (se : Nat) (ch : Nat) (x_11 : Nat) (x_13 : Nat) (ho : Nat) (pl_1 : Nat) (pl_5 : Nat) (fl : Nat) (pe : Nat) (ru : Nat) (ho_4 : Nat) (ho_5 : Nat) (ho_6 : Nat) (ho_8 : Nat) (ho_9 : Nat) (ho_10 : Nat) (ho_11 : Nat) (ho_12 : Nat) (pe_1 : Nat) (pe_2 : Nat) (pe_3 : Nat) (pe_4 : Nat) (pe_5 : Nat) (pe_6 : Nat) (pe_7 : Nat) (pe_8 : Nat) (pe_9 : Nat) (pe_10 : Nat) (fl_3 : Nat) (fl_4 : Nat) (fl_5 : Nat) (fl_6 : Nat) (fl_7 : Nat)  : CtI (S := Unit) l yX11_weeks cX11_weeks 2 (some .int) (rmD 2 0 0) G [.ref x] [(x, .inr (11, [.ref x_0, .int 0, .ref sp, .ref stm, .ref pl, .ref sk, .ref se, .ref ch, .int 0, .int (-1), .long 1, .ref x_11, .int 0, .ref x_13])), (pl, .inr (4, [.ref ho, .ref pl_1, .int 0, .int (-1), .int (-1), .ref pl_5])), (ho, .inr (2, [.ref fl, .ref pe, .ref ru, .int 0, .ref ho_4, .ref ho_5, .ref ho_6, .int 0, .ref ho_8, .ref ho_9, .ref ho_10, .ref ho_11, .ref ho_12, .int 50])), (pe, .inr (3, [.int 0, .ref pe_1, .ref pe_2, .ref pe_3, .ref pe_4, .ref pe_5, .ref pe_6, .ref pe_7, .ref pe_8, .ref pe_9, .ref pe_10])), (fl, .inr (1, [.int 0, .int 0, .int 0, .ref fl_3, .ref fl_4, .ref fl_5, .ref fl_6, .ref fl_7]))] (fun r _ => r = 1) (fun _ => []) := by
  refine ctI_of (own := RX11) (by decide +kernel) rfl (Nat.le_of_ble_eq_true rfl) ?_
  intro p e s m below meth c A ls F hr hlk hnm hK hP hD hA hS hl
  have hx := F.1
  have hb := F.2.1
  have hown := F.2.2.2.1
  have hl : lv_has ls 2 [(0, .ref x)] := hl
  refine lv_iconst (v := 1) hx hb dX11_weeks_0 (by decide) ?_
  refine lv_istore_n (lv' := [(1, .int 1), (0, .ref x)]) hx hb dX11_weeks_1 rfl hl (by decide) rfl (fun ls hl => ?_)
  refine lv_iload_n hx hb dX11_weeks_2 rfl (lv_at hl 0 rfl) ?_
  refine lv_bipush (v := 9) hx hb dX11_weeks_3 (by decide) ?_
  refine lv_icmp_gt (tgt := 27) hx hb dX11_weeks_5 (by decide) (fun h_ => absurd h_ (by decide +kernel)) (fun _ => ?_)
  refine lv_aload_n hx hb dX11_weeks_8 rfl (lv_at hl 1 rfl) ?_
  refine g_get F hK hP 0 rfl clX11 4 (by decide) flX11_43 rfl dX11_weeks_9 ?_
  refine lv_iload_n hx hb dX11_weeks_12 rfl (lv_at hl 0 rfl) ?_
  refine cvi (wr := [(x, .inr (11, [.ref x_0, .int 0, .ref sp, .ref stm, .ref pl, .ref sk, .ref se, .ref ch, .int 0, .int (-1), .long 1, .ref x_11, .int 0, .ref x_13])), (pe, .inr (3, [.int 0, .ref pe_1, .ref pe_2, .ref pe_3, .ref pe_4, .ref pe_5, .ref pe_6, .ref pe_7, .ref pe_8, .ref pe_9, .ref pe_10])), (fl, .inr (1, [.int 0, .int 0, .int 0, .ref fl_3, .ref fl_4, .ref fl_5, .ref fl_6, .ref fl_7]))]) (As := [.int 1]) (rest := []) (b := pl) (k1 := 0) (s1 := 0) F hK hP hD hS hA (k_X4_unmetWithin l G pl 1 ho pl_1 pl_5 fl pe ru ho_4 ho_5 ho_6 ho_8 ho_9 ho_10 ho_11 ho_12) kmV_X4_unmetWithin mlX11_364 clX4 rfl 0 rfl ⟨(Nat.le_of_ble_eq_true rfl), (Nat.le_of_ble_eq_true rfl)⟩ [1, 2] [0, 3, 4] rfl rfl rfl rfl (by decide) hl.1 rfl (Nat.le_of_ble_eq_true rfl) dX11_weeks_13 ⟨(Nat.le_of_ble_eq_true rfl), (Nat.le_of_ble_eq_true rfl)⟩ rfl rfl (fun r2 u1 H locs hwr2 (hP : va_P G.1 vwCl [(x, .inr (11, [.ref x_0, .int 0, .ref sp, .ref stm, .ref pl, .ref sk, .ref se, .ref ch, .int 0, .int (-1), .long 1, .ref x_11, .int 0, .ref x_13])), (pe, .inr (3, [.int 0, .ref pe_1, .ref pe_2, .ref pe_3, .ref pe_4, .ref pe_5, .ref pe_6, .ref pe_7, .ref pe_8, .ref pe_9, .ref pe_10])), (fl, .inr (1, [.int 0, .int 0, .int 0, .ref fl_3, .ref fl_4, .ref fl_5, .ref fl_6, .ref fl_7])), (pl, .inr (4, [.ref ho, .ref pl_1, .int 0, .int (-1), .int (-1), .ref pl_5])), (ho, .inr (2, [.ref fl, .ref pe, .ref ru, .int 0, .ref ho_4, .ref ho_5, .ref ho_6, .int 0, .ref ho_8, .ref ho_9, .ref ho_10, .ref ho_11, .ref ho_12, .int 50]))] H) (hD : va_D A [(x, .inr (11, [.ref x_0, .int 0, .ref sp, .ref stm, .ref pl, .ref sk, .ref se, .ref ch, .int 0, .int (-1), .long 1, .ref x_11, .int 0, .ref x_13])), (pe, .inr (3, [.int 0, .ref pe_1, .ref pe_2, .ref pe_3, .ref pe_4, .ref pe_5, .ref pe_6, .ref pe_7, .ref pe_8, .ref pe_9, .ref pe_10])), (fl, .inr (1, [.int 0, .int 0, .int 0, .ref fl_3, .ref fl_4, .ref fl_5, .ref fl_6, .ref fl_7])), (pl, .inr (4, [.ref ho, .ref pl_1, .int 0, .int (-1), .int (-1), .ref pl_5])), (ho, .inr (2, [.ref fl, .ref pe, .ref ru, .int 0, .ref ho_4, .ref ho_5, .ref ho_6, .int 0, .ref ho_8, .ref ho_9, .ref ho_10, .ref ho_11, .ref ho_12, .int 50]))]) hS => ?_)
  subst hwr2
  refine lv_if_ne (tgt := 21) hx hb dX11_weeks_16 (by decide) (fun h_ => absurd (by decide +kernel) h_) (fun _ => ?_)
  refine lv_iload_n hx hb dX11_weeks_19 rfl (lv_at hl 0 rfl) ?_
  exact r_i F hr hlk hP hD hS () [] rfl rfl rfl dX11_weeks_20 (Nat.le_of_ble_eq_true rfl) (Nat.le_of_ble_eq_true rfl)
set_option maxHeartbeats 4000000 in
set_option maxRecDepth 100000 in
theorem k_X11_fit (l : Launch) (G : Gx) (x : Nat) (a : Int32) (b : Int32) (x_0 : Nat) (sp : Nat) (stm : Nat) (pl : Nat) (sk : Nat) (se : Nat) (ch : Nat) (x_11 : Nat) (x_13 : Nat) (ho : Nat) (pl_1 : Nat) (pl_5 : Nat) (fl : Nat) (pe : Nat) (ru : Nat) (ho_4 : Nat) (ho_5 : Nat) (ho_6 : Nat) (ho_8 : Nat) (ho_9 : Nat) (ho_10 : Nat) (ho_11 : Nat) (ho_12 : Nat) (pe_1 : Nat) (pe_2 : Nat) (pe_3 : Nat) (pe_4 : Nat) (pe_5 : Nat) (pe_6 : Nat) (pe_7 : Nat) (pe_8 : Nat) (pe_9 : Nat) (pe_10 : Nat) (fl_3 : Nat) (fl_4 : Nat) (fl_5 : Nat) (fl_6 : Nat) (fl_7 : Nat) (se_1 : Nat) (se_2 : Nat)  : CtI (S := Unit) l yX11_fit cX11_fit 4 (some .int) (rmD 4 0 0) G [.ref x, .int a, .int b] [(x, .inr (11, [.ref x_0, .int 0, .ref sp, .ref stm, .ref pl, .ref sk, .ref se, .ref ch, .int 0, .int (-1), .long 1, .ref x_11, .int 0, .ref x_13])), (pl, .inr (4, [.ref ho, .ref pl_1, .int 0, .int (-1), .int (-1), .ref pl_5])), (ho, .inr (2, [.ref fl, .ref pe, .ref ru, .int 0, .ref ho_4, .ref ho_5, .ref ho_6, .int 0, .ref ho_8, .ref ho_9, .ref ho_10, .ref ho_11, .ref ho_12, .int 50])), (pe, .inr (3, [.int 0, .ref pe_1, .ref pe_2, .ref pe_3, .ref pe_4, .ref pe_5, .ref pe_6, .ref pe_7, .ref pe_8, .ref pe_9, .ref pe_10])), (fl, .inr (1, [.int 0, .int 0, .int 0, .ref fl_3, .ref fl_4, .ref fl_5, .ref fl_6, .ref fl_7])), (se, .inr (8, [.ref pl, .ref se_1, .ref se_2]))] (fun r _ => r = fFit a b) (fun _ => []) := by
  refine ctI_of (own := RX11) (by decide +kernel) rfl (Nat.le_of_ble_eq_true rfl) ?_
  intro p e s m below meth c A ls F hr hlk hnm hK hP hD hA hS hl
  have hx := F.1
  have hb := F.2.1
  have hown := F.2.2.2.1
  have hl : lv_has ls 4 [(0, .ref x), (1, .int a), (2, .int b)] := hl
  refine lv_iload_n hx hb dX11_fit_0 rfl (lv_at hl 1 rfl) ?_
  refine csi (wr := [(x, .inr (11, [.ref x_0, .int 0, .ref sp, .ref stm, .ref pl, .ref sk, .ref se, .ref ch, .int 0, .int (-1), .long 1, .ref x_11, .int 0, .ref x_13])), (pl, .inr (4, [.ref ho, .ref pl_1, .int 0, .int (-1), .int (-1), .ref pl_5])), (ho, .inr (2, [.ref fl, .ref pe, .ref ru, .int 0, .ref ho_4, .ref ho_5, .ref ho_6, .int 0, .ref ho_8, .ref ho_9, .ref ho_10, .ref ho_11, .ref ho_12, .int 50])), (pe, .inr (3, [.int 0, .ref pe_1, .ref pe_2, .ref pe_3, .ref pe_4, .ref pe_5, .ref pe_6, .ref pe_7, .ref pe_8, .ref pe_9, .ref pe_10])), (fl, .inr (1, [.int 0, .int 0, .int 0, .ref fl_3, .ref fl_4, .ref fl_5, .ref fl_6, .ref fl_7])), (se, .inr (8, [.ref pl, .ref se_1, .ref se_2]))]) (As := [.int a]) (rest := []) (k1 := 0) (s1 := 0) F hK hP hD hS hA (k_X11_isDay l G a) kmS_X11_isDay mlX11_230 ⟨(Nat.le_of_ble_eq_true rfl), (Nat.le_of_ble_eq_true rfl)⟩ [] [0, 1, 2, 3, 4, 5] rfl rfl rfl rfl (by decide) hl.1 rfl (Nat.le_of_ble_eq_true rfl) dX11_fit_1 ⟨(Nat.le_of_ble_eq_true rfl), (Nat.le_of_ble_eq_true rfl)⟩ rfl rfl (fun r2 u1 H locs hwr2 (hP : va_P G.1 vwCl [(x, .inr (11, [.ref x_0, .int 0, .ref sp, .ref stm, .ref pl, .ref sk, .ref se, .ref ch, .int 0, .int (-1), .long 1, .ref x_11, .int 0, .ref x_13])), (pl, .inr (4, [.ref ho, .ref pl_1, .int 0, .int (-1), .int (-1), .ref pl_5])), (ho, .inr (2, [.ref fl, .ref pe, .ref ru, .int 0, .ref ho_4, .ref ho_5, .ref ho_6, .int 0, .ref ho_8, .ref ho_9, .ref ho_10, .ref ho_11, .ref ho_12, .int 50])), (pe, .inr (3, [.int 0, .ref pe_1, .ref pe_2, .ref pe_3, .ref pe_4, .ref pe_5, .ref pe_6, .ref pe_7, .ref pe_8, .ref pe_9, .ref pe_10])), (fl, .inr (1, [.int 0, .int 0, .int 0, .ref fl_3, .ref fl_4, .ref fl_5, .ref fl_6, .ref fl_7])), (se, .inr (8, [.ref pl, .ref se_1, .ref se_2]))] H) (hD : va_D A [(x, .inr (11, [.ref x_0, .int 0, .ref sp, .ref stm, .ref pl, .ref sk, .ref se, .ref ch, .int 0, .int (-1), .long 1, .ref x_11, .int 0, .ref x_13])), (pl, .inr (4, [.ref ho, .ref pl_1, .int 0, .int (-1), .int (-1), .ref pl_5])), (ho, .inr (2, [.ref fl, .ref pe, .ref ru, .int 0, .ref ho_4, .ref ho_5, .ref ho_6, .int 0, .ref ho_8, .ref ho_9, .ref ho_10, .ref ho_11, .ref ho_12, .int 50])), (pe, .inr (3, [.int 0, .ref pe_1, .ref pe_2, .ref pe_3, .ref pe_4, .ref pe_5, .ref pe_6, .ref pe_7, .ref pe_8, .ref pe_9, .ref pe_10])), (fl, .inr (1, [.int 0, .int 0, .int 0, .ref fl_3, .ref fl_4, .ref fl_5, .ref fl_6, .ref fl_7])), (se, .inr (8, [.ref pl, .ref se_1, .ref se_2]))]) hS => ?_)
  subst hwr2
  refine lv_if_eq (tgt := 16) hx hb dX11_fit_4 (by decide) (fun c3 => ?_) (fun c3 => ?_)
  · refine lv_ldcw hx hb hown (F.2.2.2.2 _ cnX11_281) dX11_fit_16 ?_
    exact r_i F hr hlk hP hD hS () [] rfl rfl (by simp [fFit, c3]) dX11_fit_19 (Nat.le_of_ble_eq_true rfl) (Nat.le_of_ble_eq_true rfl)
  · refine lv_iload_n hx hb dX11_fit_7 rfl (lv_at hl 2 rfl) ?_
    refine lv_if_lt (tgt := 16) hx hb dX11_fit_8 (by decide) (fun c4 => ?_) (fun c4 => ?_)
    · refine lv_ldcw hx hb hown (F.2.2.2.2 _ cnX11_281) dX11_fit_16 ?_
      exact r_i F hr hlk hP hD hS () [] rfl rfl (by simp [fFit, c3, c4]) dX11_fit_19 (Nat.le_of_ble_eq_true rfl) (Nat.le_of_ble_eq_true rfl)
    · refine lv_iload_n hx hb dX11_fit_11 rfl (lv_at hl 2 rfl) ?_
      refine lv_iconst (v := 2) hx hb dX11_fit_12 (by decide) ?_
      refine lv_icmp_le (tgt := 20) hx hb dX11_fit_13 (by decide) (fun c5 => ?_) (fun c5 => ?_)
      · refine lv_aload_n hx hb dX11_fit_20 rfl (lv_at hl 0 rfl) ?_
        refine g_get F hK hP 0 rfl clX11 6 (by decide) flX11_59 rfl dX11_fit_21 ?_
        refine lv_iload_n hx hb dX11_fit_24 rfl (lv_at hl 1 rfl) ?_
        refine cvv (wr := [(x, .inr (11, [.ref x_0, .int 0, .ref sp, .ref stm, .ref pl, .ref sk, .ref se, .ref ch, .int 0, .int (-1), .long 1, .ref x_11, .int 0, .ref x_13]))]) (As := [.int a]) (rest := []) (b := se) (k1 := 0) (s1 := 0) F hK hP hD hS hA (k_X8_settle l G se a pl se_1 se_2 ho pl_1 pl_5 fl pe ru ho_4 ho_5 ho_6 ho_8 ho_9 ho_10 ho_11 ho_12 pe_1 pe_2 pe_3 pe_4 pe_5 pe_6 pe_7 pe_8 pe_9 pe_10 fl_3 fl_4 fl_5 fl_6 fl_7) kmV_X8_settle mlX11_350 clX8 rfl 0 rfl ⟨(Nat.le_of_ble_eq_true rfl), (Nat.le_of_ble_eq_true rfl)⟩ [5, 1, 2, 3, 4] [0] rfl rfl rfl rfl (by decide) hl.1 rfl (Nat.le_of_ble_eq_true rfl) dX11_fit_25 ⟨(Nat.le_of_ble_eq_true rfl), (Nat.le_of_ble_eq_true rfl)⟩ rfl rfl (fun u6 H locs hwr7 (hP : va_P G.1 vwCl [(x, .inr (11, [.ref x_0, .int 0, .ref sp, .ref stm, .ref pl, .ref sk, .ref se, .ref ch, .int 0, .int (-1), .long 1, .ref x_11, .int 0, .ref x_13])), (se, .inr (8, [.ref pl, .ref se_1, .ref se_2])), (pl, .inr (4, [.ref ho, .ref pl_1, .int 0, .int (-1), .int (-1), .ref pl_5])), (ho, .inr (2, [.ref fl, .ref pe, .ref ru, .int 0, .ref ho_4, .ref ho_5, .ref ho_6, .int 0, .ref ho_8, .ref ho_9, .ref ho_10, .ref ho_11, .ref ho_12, .int 50])), (pe, .inr (3, [.int 0, .ref pe_1, .ref pe_2, .ref pe_3, .ref pe_4, .ref pe_5, .ref pe_6, .ref pe_7, .ref pe_8, .ref pe_9, .ref pe_10])), (fl, .inr (1, [.int 0, .int 0, .int 0, .ref fl_3, .ref fl_4, .ref fl_5, .ref fl_6, .ref fl_7]))] H) (hD : va_D A [(x, .inr (11, [.ref x_0, .int 0, .ref sp, .ref stm, .ref pl, .ref sk, .ref se, .ref ch, .int 0, .int (-1), .long 1, .ref x_11, .int 0, .ref x_13])), (se, .inr (8, [.ref pl, .ref se_1, .ref se_2])), (pl, .inr (4, [.ref ho, .ref pl_1, .int 0, .int (-1), .int (-1), .ref pl_5])), (ho, .inr (2, [.ref fl, .ref pe, .ref ru, .int 0, .ref ho_4, .ref ho_5, .ref ho_6, .int 0, .ref ho_8, .ref ho_9, .ref ho_10, .ref ho_11, .ref ho_12, .int 50])), (pe, .inr (3, [.int 0, .ref pe_1, .ref pe_2, .ref pe_3, .ref pe_4, .ref pe_5, .ref pe_6, .ref pe_7, .ref pe_8, .ref pe_9, .ref pe_10])), (fl, .inr (1, [.int 0, .int 0, .int 0, .ref fl_3, .ref fl_4, .ref fl_5, .ref fl_6, .ref fl_7]))]) hS => ?_)
        refine lv_iload_n hx hb dX11_fit_28 rfl (lv_at hl 2 rfl) ?_
        refine lv_if_ne (tgt := 40) hx hb dX11_fit_29 (by decide) (fun c8 => ?_) (fun c8 => ?_)
        · refine lv_aload_n hx hb dX11_fit_40 rfl (lv_at hl 0 rfl) ?_
          refine g_get F hK hP 0 rfl clX11 6 (by decide) flX11_59 rfl dX11_fit_41 ?_
          refine cvi (wr := [(x, .inr (11, [.ref x_0, .int 0, .ref sp, .ref stm, .ref pl, .ref sk, .ref se, .ref ch, .int 0, .int (-1), .long 1, .ref x_11, .int 0, .ref x_13]))]) (As := []) (rest := []) (b := se) (k1 := 0) (s1 := 0) F hK hP hD hS hA (k_X8_exchangeAll l G se pl se_1 se_2 ho pl_1 pl_5 fl pe ru ho_4 ho_5 ho_6 ho_8 ho_9 ho_10 ho_11 ho_12 pe_1 pe_2 pe_3 pe_4 pe_5 pe_6 pe_7 pe_8 pe_9 pe_10 fl_3 fl_4 fl_5 fl_6 fl_7) kmV_X8_exchangeAll mlX11_353 clX8 rfl 0 rfl ⟨(Nat.le_of_ble_eq_true rfl), (Nat.le_of_ble_eq_true rfl)⟩ [1, 2, 3, 4, 5] [0] rfl rfl rfl rfl (by decide) hl.1 rfl (Nat.le_of_ble_eq_true rfl) dX11_fit_44 ⟨(Nat.le_of_ble_eq_true rfl), (Nat.le_of_ble_eq_true rfl)⟩ rfl rfl (fun r10 u9 H locs hwr10 (hP : va_P G.1 vwCl [(x, .inr (11, [.ref x_0, .int 0, .ref sp, .ref stm, .ref pl, .ref sk, .ref se, .ref ch, .int 0, .int (-1), .long 1, .ref x_11, .int 0, .ref x_13])), (se, .inr (8, [.ref pl, .ref se_1, .ref se_2])), (pl, .inr (4, [.ref ho, .ref pl_1, .int 0, .int (-1), .int (-1), .ref pl_5])), (ho, .inr (2, [.ref fl, .ref pe, .ref ru, .int 0, .ref ho_4, .ref ho_5, .ref ho_6, .int 0, .ref ho_8, .ref ho_9, .ref ho_10, .ref ho_11, .ref ho_12, .int 50])), (pe, .inr (3, [.int 0, .ref pe_1, .ref pe_2, .ref pe_3, .ref pe_4, .ref pe_5, .ref pe_6, .ref pe_7, .ref pe_8, .ref pe_9, .ref pe_10])), (fl, .inr (1, [.int 0, .int 0, .int 0, .ref fl_3, .ref fl_4, .ref fl_5, .ref fl_6, .ref fl_7]))] H) (hD : va_D A [(x, .inr (11, [.ref x_0, .int 0, .ref sp, .ref stm, .ref pl, .ref sk, .ref se, .ref ch, .int 0, .int (-1), .long 1, .ref x_11, .int 0, .ref x_13])), (se, .inr (8, [.ref pl, .ref se_1, .ref se_2])), (pl, .inr (4, [.ref ho, .ref pl_1, .int 0, .int (-1), .int (-1), .ref pl_5])), (ho, .inr (2, [.ref fl, .ref pe, .ref ru, .int 0, .ref ho_4, .ref ho_5, .ref ho_6, .int 0, .ref ho_8, .ref ho_9, .ref ho_10, .ref ho_11, .ref ho_12, .int 50])), (pe, .inr (3, [.int 0, .ref pe_1, .ref pe_2, .ref pe_3, .ref pe_4, .ref pe_5, .ref pe_6, .ref pe_7, .ref pe_8, .ref pe_9, .ref pe_10])), (fl, .inr (1, [.int 0, .int 0, .int 0, .ref fl_3, .ref fl_4, .ref fl_5, .ref fl_6, .ref fl_7]))]) hS => ?_)
          subst hwr10
          refine lv_istore_n (lv' := [(3, .int 0), (0, .ref x), (1, .int a), (2, .int b)]) hx hb dX11_fit_47 rfl hl (by decide) rfl (fun ls hl => ?_)
          refine lv_iload_n hx hb dX11_fit_48 rfl (lv_at hl 3 rfl) ?_
          refine lv_iconst (v := 1) hx hb dX11_fit_49 (by decide) ?_
          refine lv_icmp_ne (tgt := 63) hx hb dX11_fit_50 (by decide) (fun c11 => ?_) (fun c11 => ?_)
          · refine lv_iload_n hx hb dX11_fit_63 rfl (lv_at hl 0 rfl) ?_
            exact r_i F hr hlk hP hD hS () [] rfl rfl (by simp [fFit, c3, c4, c5, c8, c11]) dX11_fit_64 (Nat.le_of_ble_eq_true rfl) (Nat.le_of_ble_eq_true rfl)
          · refine lv_aload_n hx hb dX11_fit_53 rfl (lv_at hl 1 rfl) ?_
            refine g_get F hK hP 0 rfl clX11 6 (by decide) flX11_59 rfl dX11_fit_54 ?_
            refine cvi (wr := [(x, .inr (11, [.ref x_0, .int 0, .ref sp, .ref stm, .ref pl, .ref sk, .ref se, .ref ch, .int 0, .int (-1), .long 1, .ref x_11, .int 0, .ref x_13]))]) (As := []) (rest := []) (b := se) (k1 := 0) (s1 := 0) F hK hP hD hS hA (k_X8_fitNow l G se pl se_1 se_2 ho pl_1 pl_5 fl pe ru ho_4 ho_5 ho_6 ho_8 ho_9 ho_10 ho_11 ho_12 pe_1 pe_2 pe_3 pe_4 pe_5 pe_6 pe_7 pe_8 pe_9 pe_10 fl_3 fl_4 fl_5 fl_6 fl_7) kmV_X8_fitNow mlX11_358 clX8 rfl 0 rfl ⟨(Nat.le_of_ble_eq_true rfl), (Nat.le_of_ble_eq_true rfl)⟩ [1, 2, 3, 4, 5] [0] rfl rfl rfl rfl (by decide) hl.1 rfl (Nat.le_of_ble_eq_true rfl) dX11_fit_57 ⟨(Nat.le_of_ble_eq_true rfl), (Nat.le_of_ble_eq_true rfl)⟩ rfl rfl (fun r13 u12 H locs hwr13 (hP : va_P G.1 vwCl [(x, .inr (11, [.ref x_0, .int 0, .ref sp, .ref stm, .ref pl, .ref sk, .ref se, .ref ch, .int 0, .int (-1), .long 1, .ref x_11, .int 0, .ref x_13])), (se, .inr (8, [.ref pl, .ref se_1, .ref se_2])), (pl, .inr (4, [.ref ho, .ref pl_1, .int 0, .int (-1), .int (-1), .ref pl_5])), (ho, .inr (2, [.ref fl, .ref pe, .ref ru, .int 0, .ref ho_4, .ref ho_5, .ref ho_6, .int 0, .ref ho_8, .ref ho_9, .ref ho_10, .ref ho_11, .ref ho_12, .int 50])), (pe, .inr (3, [.int 0, .ref pe_1, .ref pe_2, .ref pe_3, .ref pe_4, .ref pe_5, .ref pe_6, .ref pe_7, .ref pe_8, .ref pe_9, .ref pe_10])), (fl, .inr (1, [.int 0, .int 0, .int 0, .ref fl_3, .ref fl_4, .ref fl_5, .ref fl_6, .ref fl_7]))] H) (hD : va_D A [(x, .inr (11, [.ref x_0, .int 0, .ref sp, .ref stm, .ref pl, .ref sk, .ref se, .ref ch, .int 0, .int (-1), .long 1, .ref x_11, .int 0, .ref x_13])), (se, .inr (8, [.ref pl, .ref se_1, .ref se_2])), (pl, .inr (4, [.ref ho, .ref pl_1, .int 0, .int (-1), .int (-1), .ref pl_5])), (ho, .inr (2, [.ref fl, .ref pe, .ref ru, .int 0, .ref ho_4, .ref ho_5, .ref ho_6, .int 0, .ref ho_8, .ref ho_9, .ref ho_10, .ref ho_11, .ref ho_12, .int 50])), (pe, .inr (3, [.int 0, .ref pe_1, .ref pe_2, .ref pe_3, .ref pe_4, .ref pe_5, .ref pe_6, .ref pe_7, .ref pe_8, .ref pe_9, .ref pe_10])), (fl, .inr (1, [.int 0, .int 0, .int 0, .ref fl_3, .ref fl_4, .ref fl_5, .ref fl_6, .ref fl_7]))]) hS => ?_)
            subst hwr13
            refine lv_goto (tgt := 64) hx hb dX11_fit_60 (by decide) ?_
            exact r_i F hr hlk hP hD hS () [] rfl rfl (by simp [fFit, c3, c4, c5, c8, c11]) dX11_fit_64 (Nat.le_of_ble_eq_true rfl) (Nat.le_of_ble_eq_true rfl)
        · refine lv_aload_n hx hb dX11_fit_32 rfl (lv_at hl 0 rfl) ?_
          refine g_get F hK hP 0 rfl clX11 6 (by decide) flX11_59 rfl dX11_fit_33 ?_
          refine cvi (wr := [(x, .inr (11, [.ref x_0, .int 0, .ref sp, .ref stm, .ref pl, .ref sk, .ref se, .ref ch, .int 0, .int (-1), .long 1, .ref x_11, .int 0, .ref x_13]))]) (As := []) (rest := []) (b := se) (k1 := 0) (s1 := 0) F hK hP hD hS hA (k_X8_fitNow l G se pl se_1 se_2 ho pl_1 pl_5 fl pe ru ho_4 ho_5 ho_6 ho_8 ho_9 ho_10 ho_11 ho_12 pe_1 pe_2 pe_3 pe_4 pe_5 pe_6 pe_7 pe_8 pe_9 pe_10 fl_3 fl_4 fl_5 fl_6 fl_7) kmV_X8_fitNow mlX11_358 clX8 rfl 0 rfl ⟨(Nat.le_of_ble_eq_true rfl), (Nat.le_of_ble_eq_true rfl)⟩ [1, 2, 3, 4, 5] [0] rfl rfl rfl rfl (by decide) hl.1 rfl (Nat.le_of_ble_eq_true rfl) dX11_fit_36 ⟨(Nat.le_of_ble_eq_true rfl), (Nat.le_of_ble_eq_true rfl)⟩ rfl rfl (fun r15 u14 H locs hwr15 (hP : va_P G.1 vwCl [(x, .inr (11, [.ref x_0, .int 0, .ref sp, .ref stm, .ref pl, .ref sk, .ref se, .ref ch, .int 0, .int (-1), .long 1, .ref x_11, .int 0, .ref x_13])), (se, .inr (8, [.ref pl, .ref se_1, .ref se_2])), (pl, .inr (4, [.ref ho, .ref pl_1, .int 0, .int (-1), .int (-1), .ref pl_5])), (ho, .inr (2, [.ref fl, .ref pe, .ref ru, .int 0, .ref ho_4, .ref ho_5, .ref ho_6, .int 0, .ref ho_8, .ref ho_9, .ref ho_10, .ref ho_11, .ref ho_12, .int 50])), (pe, .inr (3, [.int 0, .ref pe_1, .ref pe_2, .ref pe_3, .ref pe_4, .ref pe_5, .ref pe_6, .ref pe_7, .ref pe_8, .ref pe_9, .ref pe_10])), (fl, .inr (1, [.int 0, .int 0, .int 0, .ref fl_3, .ref fl_4, .ref fl_5, .ref fl_6, .ref fl_7]))] H) (hD : va_D A [(x, .inr (11, [.ref x_0, .int 0, .ref sp, .ref stm, .ref pl, .ref sk, .ref se, .ref ch, .int 0, .int (-1), .long 1, .ref x_11, .int 0, .ref x_13])), (se, .inr (8, [.ref pl, .ref se_1, .ref se_2])), (pl, .inr (4, [.ref ho, .ref pl_1, .int 0, .int (-1), .int (-1), .ref pl_5])), (ho, .inr (2, [.ref fl, .ref pe, .ref ru, .int 0, .ref ho_4, .ref ho_5, .ref ho_6, .int 0, .ref ho_8, .ref ho_9, .ref ho_10, .ref ho_11, .ref ho_12, .int 50])), (pe, .inr (3, [.int 0, .ref pe_1, .ref pe_2, .ref pe_3, .ref pe_4, .ref pe_5, .ref pe_6, .ref pe_7, .ref pe_8, .ref pe_9, .ref pe_10])), (fl, .inr (1, [.int 0, .int 0, .int 0, .ref fl_3, .ref fl_4, .ref fl_5, .ref fl_6, .ref fl_7]))]) hS => ?_)
          subst hwr15
          exact r_i F hr hlk hP hD hS () [] rfl rfl (by simp [fFit, c3, c4, c5, c8]) dX11_fit_39 (Nat.le_of_ble_eq_true rfl) (Nat.le_of_ble_eq_true rfl)
      · refine lv_ldcw hx hb hown (F.2.2.2.2 _ cnX11_281) dX11_fit_16 ?_
        exact r_i F hr hlk hP hD hS () [] rfl rfl (by simp [fFit, c3, c4, c5]) dX11_fit_19 (Nat.le_of_ble_eq_true rfl) (Nat.le_of_ble_eq_true rfl)
set_option maxHeartbeats 4000000 in
set_option maxRecDepth 100000 in
theorem k_X11_draw (l : Launch) (G : Gx) (x : Nat) (a : Int32) (x_0 : Nat) (sp : Nat) (stm : Nat) (pl : Nat) (sk : Nat) (se : Nat) (ch : Nat) (x_11 : Nat) (x_13 : Nat) (ho : Nat) (pl_1 : Nat) (pl_5 : Nat) (fl : Nat) (pe : Nat) (ru : Nat) (ho_4 : Nat) (ho_5 : Nat) (ho_6 : Nat) (ho_8 : Nat) (ho_9 : Nat) (ho_10 : Nat) (ho_11 : Nat) (ho_12 : Nat) (pe_1 : Nat) (pe_2 : Nat) (pe_3 : Nat) (pe_4 : Nat) (pe_5 : Nat) (pe_6 : Nat) (pe_7 : Nat) (pe_8 : Nat) (pe_9 : Nat) (pe_10 : Nat) (fl_3 : Nat) (fl_4 : Nat) (fl_5 : Nat) (fl_6 : Nat) (fl_7 : Nat)  : CtI (S := Unit) l yX11_draw cX11_draw 5 (some .int) (rmD 3 0 0) G [.ref x, .int a] [(x, .inr (11, [.ref x_0, .int 0, .ref sp, .ref stm, .ref pl, .ref sk, .ref se, .ref ch, .int 0, .int (-1), .long 1, .ref x_11, .int 0, .ref x_13])), (pl, .inr (4, [.ref ho, .ref pl_1, .int 0, .int (-1), .int (-1), .ref pl_5])), (ho, .inr (2, [.ref fl, .ref pe, .ref ru, .int 0, .ref ho_4, .ref ho_5, .ref ho_6, .int 0, .ref ho_8, .ref ho_9, .ref ho_10, .ref ho_11, .ref ho_12, .int 50])), (pe, .inr (3, [.int 0, .ref pe_1, .ref pe_2, .ref pe_3, .ref pe_4, .ref pe_5, .ref pe_6, .ref pe_7, .ref pe_8, .ref pe_9, .ref pe_10])), (fl, .inr (1, [.int 0, .int 0, .int 0, .ref fl_3, .ref fl_4, .ref fl_5, .ref fl_6, .ref fl_7])), (ho_11, .inl (G.2.1, 5, .inl (fun _ => 0)))] (fun r _ => r = fDraw a) (fun _ => []) := by
  refine ctI_of (own := RX11) (by decide +kernel) rfl (Nat.le_of_ble_eq_true rfl) ?_
  intro p e s m below meth c A ls F hr hlk hnm hK hP hD hA hS hl
  have hx := F.1
  have hb := F.2.1
  have hown := F.2.2.2.1
  have hl : lv_has ls 5 [(0, .ref x), (1, .int a)] := hl
  refine lv_iload_n hx hb dX11_draw_0 rfl (lv_at hl 1 rfl) ?_
  refine csi (wr := [(x, .inr (11, [.ref x_0, .int 0, .ref sp, .ref stm, .ref pl, .ref sk, .ref se, .ref ch, .int 0, .int (-1), .long 1, .ref x_11, .int 0, .ref x_13])), (pl, .inr (4, [.ref ho, .ref pl_1, .int 0, .int (-1), .int (-1), .ref pl_5])), (ho, .inr (2, [.ref fl, .ref pe, .ref ru, .int 0, .ref ho_4, .ref ho_5, .ref ho_6, .int 0, .ref ho_8, .ref ho_9, .ref ho_10, .ref ho_11, .ref ho_12, .int 50])), (pe, .inr (3, [.int 0, .ref pe_1, .ref pe_2, .ref pe_3, .ref pe_4, .ref pe_5, .ref pe_6, .ref pe_7, .ref pe_8, .ref pe_9, .ref pe_10])), (fl, .inr (1, [.int 0, .int 0, .int 0, .ref fl_3, .ref fl_4, .ref fl_5, .ref fl_6, .ref fl_7])), (ho_11, .inl (G.2.1, 5, .inl (fun _ => 0)))]) (As := [.int a]) (rest := []) (k1 := 0) (s1 := 0) F hK hP hD hS hA (k_X11_isDay l G a) kmS_X11_isDay mlX11_230 ⟨(Nat.le_of_ble_eq_true rfl), (Nat.le_of_ble_eq_true rfl)⟩ [] [0, 1, 2, 3, 4, 5] rfl rfl rfl rfl (by decide) hl.1 rfl (Nat.le_of_ble_eq_true rfl) dX11_draw_1 ⟨(Nat.le_of_ble_eq_true rfl), (Nat.le_of_ble_eq_true rfl)⟩ rfl rfl (fun r2 u1 H locs hwr2 (hP : va_P G.1 vwCl [(x, .inr (11, [.ref x_0, .int 0, .ref sp, .ref stm, .ref pl, .ref sk, .ref se, .ref ch, .int 0, .int (-1), .long 1, .ref x_11, .int 0, .ref x_13])), (pl, .inr (4, [.ref ho, .ref pl_1, .int 0, .int (-1), .int (-1), .ref pl_5])), (ho, .inr (2, [.ref fl, .ref pe, .ref ru, .int 0, .ref ho_4, .ref ho_5, .ref ho_6, .int 0, .ref ho_8, .ref ho_9, .ref ho_10, .ref ho_11, .ref ho_12, .int 50])), (pe, .inr (3, [.int 0, .ref pe_1, .ref pe_2, .ref pe_3, .ref pe_4, .ref pe_5, .ref pe_6, .ref pe_7, .ref pe_8, .ref pe_9, .ref pe_10])), (fl, .inr (1, [.int 0, .int 0, .int 0, .ref fl_3, .ref fl_4, .ref fl_5, .ref fl_6, .ref fl_7])), (ho_11, .inl (G.2.1, 5, .inl (fun _ => 0)))] H) (hD : va_D A [(x, .inr (11, [.ref x_0, .int 0, .ref sp, .ref stm, .ref pl, .ref sk, .ref se, .ref ch, .int 0, .int (-1), .long 1, .ref x_11, .int 0, .ref x_13])), (pl, .inr (4, [.ref ho, .ref pl_1, .int 0, .int (-1), .int (-1), .ref pl_5])), (ho, .inr (2, [.ref fl, .ref pe, .ref ru, .int 0, .ref ho_4, .ref ho_5, .ref ho_6, .int 0, .ref ho_8, .ref ho_9, .ref ho_10, .ref ho_11, .ref ho_12, .int 50])), (pe, .inr (3, [.int 0, .ref pe_1, .ref pe_2, .ref pe_3, .ref pe_4, .ref pe_5, .ref pe_6, .ref pe_7, .ref pe_8, .ref pe_9, .ref pe_10])), (fl, .inr (1, [.int 0, .int 0, .int 0, .ref fl_3, .ref fl_4, .ref fl_5, .ref fl_6, .ref fl_7])), (ho_11, .inl (G.2.1, 5, .inl (fun _ => 0)))]) hS => ?_)
  subst hwr2
  refine lv_if_ne (tgt := 9) hx hb dX11_draw_4 (by decide) (fun c3 => ?_) (fun c3 => ?_)
  · refine lv_aload_n hx hb dX11_draw_9 rfl (lv_at hl 0 rfl) ?_
    refine g_get F hK hP 0 rfl clX11 4 (by decide) flX11_43 rfl dX11_draw_10 ?_
    refine g_get F hK hP 1 rfl clX4 0 (by decide) flX11_121 rfl dX11_draw_13 ?_
    refine lv_astore_n (lv' := [(2, .ref ho), (0, .ref x), (1, .int a)]) hx hb dX11_draw_16 rfl hl (by decide) rfl (fun ls hl => ?_)
    refine lv_iconst (v := 0) hx hb dX11_draw_17 (by decide) ?_
    refine lv_istore_n (lv' := [(3, .int 0), (2, .ref ho), (0, .ref x), (1, .int a)]) hx hb dX11_draw_18 rfl hl (by decide) rfl (fun ls hl => ?_)
    refine lv_iconst (v := 0) hx hb dX11_draw_19 (by decide) ?_
    refine lv_istore (lv' := [(4, .int 0), (3, .int 0), (2, .ref ho), (0, .ref x), (1, .int a)]) hx hb dX11_draw_20 hl (by decide) rfl (fun ls hl => ?_)
    refine lv_iload hx hb dX11_draw_22 (lv_at hl 0 rfl) ?_
    refine lv_aload_n hx hb dX11_draw_24 rfl (lv_at hl 2 rfl) ?_
    refine g_get F hK hP 2 rfl clX2 1 (by decide) flX11_139 rfl dX11_draw_25 ?_
    refine g_get F hK hP 3 rfl clX3 0 (by decide) flX11_143 rfl dX11_draw_28 ?_
    refine lv_icmp_ge (tgt := 70) hx hb dX11_draw_31 (by decide) (fun _ => ?_) (fun h_ => absurd (by decide +kernel) h_)
    refine lv_iconst (v := 0) hx hb dX11_draw_70 (by decide) ?_
    refine lv_istore (lv' := [(4, .int 0), (3, .int 0), (2, .ref ho), (0, .ref x), (1, .int a)]) hx hb dX11_draw_71 hl (by decide) rfl (fun ls hl => ?_)
    refine lv_iload hx hb dX11_draw_73 (lv_at hl 0 rfl) ?_
    refine lv_aload_n hx hb dX11_draw_75 rfl (lv_at hl 2 rfl) ?_
    refine g_get F hK hP 2 rfl clX2 11 (by decide) flX11_239 rfl dX11_draw_76 ?_
    refine lv_iload_n hx hb dX11_draw_79 rfl (lv_at hl 4 rfl) ?_
    refine g_iald (v := 0) F hK hP 5 rfl (isB_in c3 rfl) dX11_draw_80 rfl ?_
    refine lv_icmp_ge (tgt := 103) hx hb dX11_draw_81 (by decide) (fun _ => ?_) (fun h_ => absurd (by decide +kernel) h_)
    refine lv_iload_n hx hb dX11_draw_103 rfl (lv_at hl 1 rfl) ?_
    exact r_i F hr hlk hP hD hS () [] rfl rfl (by simp [fDraw, c3]) dX11_draw_104 (Nat.le_of_ble_eq_true rfl) (Nat.le_of_ble_eq_true rfl)
  · refine lv_iconst (v := (-1)) hx hb dX11_draw_7 (by decide) ?_
    exact r_i F hr hlk hP hD hS () [] rfl rfl (by simp [fDraw, c3]) dX11_draw_8 (Nat.le_of_ble_eq_true rfl) (Nat.le_of_ble_eq_true rfl)
end
section
theorem dJ7_fill_53178_10 : decode cJ7_fill_53178 10 = .ok (.aload_n 0, 1) := by decide +kernel
theorem dJ7_fill_53178_11 : decode cJ7_fill_53178 11 = .ok (.iload_n 2, 1) := by decide +kernel
theorem dJ7_fill_53178_12 : decode cJ7_fill_53178 12 = .ok (.iload_n 1, 1) := by decide +kernel
theorem dJ7_fill_53178_13 : decode cJ7_fill_53178 13 = .ok (.iastore, 1) := by decide +kernel
theorem dJ7_fill_53178_14 : decode cJ7_fill_53178 14 = .ok (.iinc 2 1, 3) := by decide +kernel
theorem dJ7_fill_53178_17 : decode cJ7_fill_53178 17 = .ok (.goto (-12), 3) := by decide +kernel
theorem dJ7_fill_53178_5 : decode cJ7_fill_53178 5 = .ok (.iload_n 2, 1) := by decide +kernel
theorem dJ7_fill_53178_6 : decode cJ7_fill_53178 6 = .ok (.iload_n 3, 1) := by decide +kernel
theorem dJ7_fill_53178_7 : decode cJ7_fill_53178 7 = .ok (.if_icmp .ge 13, 3) := by decide +kernel
theorem dJ7_fill_53178_0 : decode cJ7_fill_53178 0 = .ok (.iconst 0, 1) := by decide +kernel
theorem dJ7_fill_53178_1 : decode cJ7_fill_53178 1 = .ok (.istore_n 2, 1) := by decide +kernel
theorem dJ7_fill_53178_2 : decode cJ7_fill_53178 2 = .ok (.aload_n 0, 1) := by decide +kernel
theorem dJ7_fill_53178_20 : decode cJ7_fill_53178 20 = .ok (.return_, 1) := by decide +kernel
theorem dJ7_fill_53178_3 : decode cJ7_fill_53178 3 = .ok (.arraylength, 1) := by decide +kernel
theorem dJ7_fill_53178_4 : decode cJ7_fill_53178 4 = .ok (.istore_n 3, 1) := by decide +kernel
theorem dJ7_fill_d0a16_12 : decode cJ7_fill_d0a16 12 = .ok (.aload_n 0, 1) := by decide +kernel
theorem dJ7_fill_d0a16_13 : decode cJ7_fill_d0a16 13 = .ok (.iload_n 3, 1) := by decide +kernel
theorem dJ7_fill_d0a16_14 : decode cJ7_fill_d0a16 14 = .ok (.lload_n 1, 1) := by decide +kernel
theorem dJ7_fill_d0a16_15 : decode cJ7_fill_d0a16 15 = .ok (.lastore, 1) := by decide +kernel
theorem dJ7_fill_d0a16_16 : decode cJ7_fill_d0a16 16 = .ok (.iinc 3 1, 3) := by decide +kernel
theorem dJ7_fill_d0a16_19 : decode cJ7_fill_d0a16 19 = .ok (.goto (-13), 3) := by decide +kernel
theorem dJ7_fill_d0a16_6 : decode cJ7_fill_d0a16 6 = .ok (.iload_n 3, 1) := by decide +kernel
theorem dJ7_fill_d0a16_7 : decode cJ7_fill_d0a16 7 = .ok (.iload 4, 2) := by decide +kernel
theorem dJ7_fill_d0a16_9 : decode cJ7_fill_d0a16 9 = .ok (.if_icmp .ge 13, 3) := by decide +kernel
theorem dJ7_fill_d0a16_0 : decode cJ7_fill_d0a16 0 = .ok (.iconst 0, 1) := by decide +kernel
theorem dJ7_fill_d0a16_1 : decode cJ7_fill_d0a16 1 = .ok (.istore_n 3, 1) := by decide +kernel
theorem dJ7_fill_d0a16_2 : decode cJ7_fill_d0a16 2 = .ok (.aload_n 0, 1) := by decide +kernel
theorem dJ7_fill_d0a16_22 : decode cJ7_fill_d0a16 22 = .ok (.return_, 1) := by decide +kernel
theorem dJ7_fill_d0a16_3 : decode cJ7_fill_d0a16 3 = .ok (.arraylength, 1) := by decide +kernel
theorem dJ7_fill_d0a16_4 : decode cJ7_fill_d0a16 4 = .ok (.istore 4, 2) := by decide +kernel
end
section
set_option maxHeartbeats 4000000 in
set_option maxRecDepth 100000 in
theorem lp_fillI {p : Program} {l : Launch} {e : Env} {R : Room} {s : State} {m : MethodId} {args : Array Value} {below : List Frame} {meth : Method} {c : Code} {A : Nat → Prop} {cells slots : Nat} {Q : State → Prop} (G : Gx) (n : Nat) (a : Nat) (v : Int32) (hn : n < 2 ^ 31) (hRf : 3 ≤ R.frames) (hRl : 180 ≤ R.locals) (hRc : cells ≤ R.cells) (hRs : slots ≤ R.slots) (F : CallFix p m c cJ7_fill_53178 4 s args tb RJ7) (hK : KX G s) (hA : ∀ q, s.heap.size ≤ q → A q)
    (kx : ∀ (f : Nat → Int32) (H : Heap) (locs : List Loc) (ls : Array Slot), True → va_P G.1 vwCl [(a, .inl (G.2.1, n, .inl f))] H → va_D A [(a, .inl (G.2.1, n, .inl f))] → va_S A s.heap H locs → lv_has ls 4 [(0, .ref a)] → W p l e R s m args below meth c H locs cells slots Q (F0 m 20 ls [])) :
    ∀ (k : Nat) (f : Nat → Int32) (i : Nat) (H : Heap) (locs : List Loc) (ls : Array Slot), i + k = n → True → va_P G.1 vwCl [(a, .inl (G.2.1, n, .inl f))] H → va_D A [(a, .inl (G.2.1, n, .inl f))] → va_S A s.heap H locs → lv_has ls 4 [(2, .int (nI i)), (3, .int (nI n)), (0, .ref a), (1, .int v)] → W p l e R s m args below meth c H locs cells slots Q (F0 m 5 ls []) := by
  have hx := F.1
  have hb := F.2.1
  have hown := F.2.2.2.1
  intro k
  induction k with
  | zero =>
    intro f i H locs ls hm hI hP hD hS hl
    refine lv_iload_n hx hb dJ7_fill_53178_5 rfl (lv_at hl 0 rfl) ?_
    refine lv_iload_n hx hb dJ7_fill_53178_6 rfl (lv_at hl 1 rfl) ?_
    refine lv_icmp_ge (tgt := 20) hx hb dJ7_fill_53178_7 (by decide) (fun _ => ?_) (fun h_ => absurd (nI_le (a := n) (b := i) (by omega) (by omega)) h_)
    exact kx f H locs ls hI hP hD hS (lv_sub hl [2] rfl)
  | succ k ih =>
    intro f i H locs ls hm hI hP hD hS hl
    refine lv_iload_n hx hb dJ7_fill_53178_5 rfl (lv_at hl 0 rfl) ?_
    refine lv_iload_n hx hb dJ7_fill_53178_6 rfl (lv_at hl 1 rfl) ?_
    refine lv_icmp_ge (tgt := 20) hx hb dJ7_fill_53178_7 (by decide) (fun h_ => absurd h_ (nI_ge (a := i) (b := n) (by omega) (by omega))) (fun _ => ?_)
    refine lv_aload_n hx hb dJ7_fill_53178_10 rfl (lv_at hl 2 rfl) ?_
    refine lv_iload_n hx hb dJ7_fill_53178_11 rfl (lv_at hl 0 rfl) ?_
    refine lv_iload_n hx hb dJ7_fill_53178_12 rfl (lv_at hl 3 rfl) ?_
    refine g_iast F hK hP hD hS 0 rfl (vp_in_nI (n := i) (N := n) (by omega) (by omega)) dJ7_fill_53178_13 (fun f_ => [(a, .inl (G.2.1, n, .inl f_))]) (fun _ => rfl) (fun f1 H locs ef1 (hP : va_P G.1 vwCl [(a, .inl (G.2.1, n, .inl f1))] H) (hD : va_D A [(a, .inl (G.2.1, n, .inl f1))]) hS => ?_)
    refine lv_iinc (v := (nI (i + 1))) (lv' := [(2, .int (nI (i + 1))), (3, .int (nI n)), (0, .ref a), (1, .int v)]) hx hb dJ7_fill_53178_14 hl (k := 0) rfl (nI_1 i) (by decide) rfl (fun ls hl => ?_)
    refine lv_goto (tgt := 5) hx hb dJ7_fill_53178_17 (by decide) ?_
    exact ih f1 (i + 1) H locs ls (by omega) trivial hP hD hS (lv_sub hl [0, 1, 2, 3] rfl)
set_option maxHeartbeats 4000000 in
set_option maxRecDepth 100000 in
theorem k_J7_fill_53178 (l : Launch) (G : Gx) (n : Nat) (a : Nat) (v : Int32) (f : Nat → Int32) (hn : n < 2 ^ 31) : CtV (S := Nat → Int32) l yJ7_fill_53178 cJ7_fill_53178 4 none (rmD 4 0 0) G [.ref a, .int v] [(a, .inl (G.2.1, n, .inl f))] (fun _ => True) (fun u => [(a, .inl (G.2.1, n, .inl u))]) := by
  refine ctV_of (own := RJ7) (by decide +kernel) rfl (Nat.le_of_ble_eq_true rfl) ?_
  intro p e s m below meth c A ls F hr hlk hnm hK hP hD hA hS hl
  have hx := F.1
  have hb := F.2.1
  have hown := F.2.2.2.1
  have hl : lv_has ls 4 [(0, .ref a), (1, .int v)] := hl
  refine lv_iconst (v := 0) hx hb dJ7_fill_53178_0 (by decide) ?_
  refine lv_istore_n (lv' := [(2, .int 0), (0, .ref a), (1, .int v)]) hx hb dJ7_fill_53178_1 rfl hl (by decide) rfl (fun ls hl => ?_)
  refine lv_aload_n hx hb dJ7_fill_53178_2 rfl (lv_at hl 1 rfl) ?_
  refine g_ialen (v := (nI n)) F hK hP 0 rfl rfl dJ7_fill_53178_3 ?_
  refine lv_istore_n (lv' := [(3, .int (nI n)), (2, .int 0), (0, .ref a), (1, .int v)]) hx hb dJ7_fill_53178_4 rfl hl (by decide) rfl (fun ls hl => ?_)
  refine lp_fillI G n a v hn (by exact Nat.le_of_ble_eq_true rfl) (by exact Nat.le_of_ble_eq_true rfl) (by exact Nat.le_of_ble_eq_true rfl) (by exact Nat.le_of_ble_eq_true rfl) F hK hA (fun v1 H locs ls hI2 hP hD hS hl => ?_) n f 0 _ _ _ (by omega) trivial hP hD hS (lv_sub hl [1, 0, 2, 3] rfl)
  exact r_v F hr hlk hP hD hS v1 [0] rfl rfl trivial dJ7_fill_53178_20 (Nat.le_of_ble_eq_true rfl) (Nat.le_of_ble_eq_true rfl)
set_option maxHeartbeats 4000000 in
set_option maxRecDepth 100000 in
theorem lp_fillJ {p : Program} {l : Launch} {e : Env} {R : Room} {s : State} {m : MethodId} {args : Array Value} {below : List Frame} {meth : Method} {c : Code} {A : Nat → Prop} {cells slots : Nat} {Q : State → Prop} (G : Gx) (n : Nat) (a : Nat) (v : Int64) (hn : n < 2 ^ 31) (hRf : 3 ≤ R.frames) (hRl : 180 ≤ R.locals) (hRc : cells ≤ R.cells) (hRs : slots ≤ R.slots) (F : CallFix p m c cJ7_fill_d0a16 5 s args tb RJ7) (hK : KX G s) (hA : ∀ q, s.heap.size ≤ q → A q)
    (kx : ∀ (f : Nat → Int64) (H : Heap) (locs : List Loc) (ls : Array Slot), (∀ j, j < n → f j = v) → va_P G.1 vwCl [(a, .inl (G.2.2.1, n, .inr (.inl f)))] H → va_D A [(a, .inl (G.2.2.1, n, .inr (.inl f)))] → va_S A s.heap H locs → lv_has ls 5 [(0, .ref a)] → W p l e R s m args below meth c H locs cells slots Q (F0 m 22 ls [])) :
    ∀ (k : Nat) (f : Nat → Int64) (i : Nat) (H : Heap) (locs : List Loc) (ls : Array Slot), i + k = n → (∀ j, j < i → f j = v) → va_P G.1 vwCl [(a, .inl (G.2.2.1, n, .inr (.inl f)))] H → va_D A [(a, .inl (G.2.2.1, n, .inr (.inl f)))] → va_S A s.heap H locs → lv_has ls 5 [(3, .int (nI i)), (4, .int (nI n)), (0, .ref a), (1, .long v)] → W p l e R s m args below meth c H locs cells slots Q (F0 m 6 ls []) := by
  have hx := F.1
  have hb := F.2.1
  have hown := F.2.2.2.1
  intro k
  induction k with
  | zero =>
    intro f i H locs ls hm hI hP hD hS hl
    refine lv_iload_n hx hb dJ7_fill_d0a16_6 rfl (lv_at hl 0 rfl) ?_
    refine lv_iload hx hb dJ7_fill_d0a16_7 (lv_at hl 1 rfl) ?_
    refine lv_icmp_ge (tgt := 22) hx hb dJ7_fill_d0a16_9 (by decide) (fun _ => ?_) (fun h_ => absurd (nI_le (a := n) (b := i) (by omega) (by omega)) h_)
    exact kx f H locs ls (fun j h => hI j (by omega)) hP hD hS (lv_sub hl [2] rfl)
  | succ k ih =>
    intro f i H locs ls hm hI hP hD hS hl
    refine lv_iload_n hx hb dJ7_fill_d0a16_6 rfl (lv_at hl 0 rfl) ?_
    refine lv_iload hx hb dJ7_fill_d0a16_7 (lv_at hl 1 rfl) ?_
    refine lv_icmp_ge (tgt := 22) hx hb dJ7_fill_d0a16_9 (by decide) (fun h_ => absurd h_ (nI_ge (a := i) (b := n) (by omega) (by omega))) (fun _ => ?_)
    refine lv_aload_n hx hb dJ7_fill_d0a16_12 rfl (lv_at hl 2 rfl) ?_
    refine lv_iload_n hx hb dJ7_fill_d0a16_13 rfl (lv_at hl 0 rfl) ?_
    refine lv_lload_n hx hb dJ7_fill_d0a16_14 rfl (lv_at hl 3 rfl) ?_
    refine g_last F hK hP hD hS 0 rfl (vp_in_nI (n := i) (N := n) (by omega) (by omega)) dJ7_fill_d0a16_15 (fun f_ => [(a, .inl (G.2.2.1, n, .inr (.inl f_)))]) (fun _ => rfl) (fun f1 H locs ef1 (hP : va_P G.1 vwCl [(a, .inl (G.2.2.1, n, .inr (.inl f1)))] H) (hD : va_D A [(a, .inl (G.2.2.1, n, .inr (.inl f1)))]) hS => ?_)
    refine lv_iinc (v := (nI (i + 1))) (lv' := [(3, .int (nI (i + 1))), (4, .int (nI n)), (0, .ref a), (1, .long v)]) hx hb dJ7_fill_d0a16_16 hl (k := 0) rfl (nI_1 i) (by decide) rfl (fun ls hl => ?_)
    refine lv_goto (tgt := 6) hx hb dJ7_fill_d0a16_19 (by decide) ?_
    exact ih f1 (i + 1) H locs ls (by omega) (fill_inv hI ef1 (by omega)) hP hD hS (lv_sub hl [0, 1, 2, 3] rfl)
set_option maxHeartbeats 4000000 in
set_option maxRecDepth 100000 in
theorem k_J7_fill_d0a16 (l : Launch) (G : Gx) (n : Nat) (a : Nat) (v : Int64) (f : Nat → Int64) (hn : n < 2 ^ 31) : CtV (S := Nat → Int64) l yJ7_fill_d0a16 cJ7_fill_d0a16 5 none (rmD 4 0 0) G [.ref a, .long v] [(a, .inl (G.2.2.1, n, .inr (.inl f)))] (fun u => ∀ j, j < n → u j = v) (fun u => [(a, .inl (G.2.2.1, n, .inr (.inl u)))]) := by
  refine ctV_of (own := RJ7) (by decide +kernel) rfl (Nat.le_of_ble_eq_true rfl) ?_
  intro p e s m below meth c A ls F hr hlk hnm hK hP hD hA hS hl
  have hx := F.1
  have hb := F.2.1
  have hown := F.2.2.2.1
  have hl : lv_has ls 5 [(0, .ref a), (1, .long v)] := hl
  refine lv_iconst (v := 0) hx hb dJ7_fill_d0a16_0 (by decide) ?_
  refine lv_istore_n (lv' := [(3, .int 0), (0, .ref a), (1, .long v)]) hx hb dJ7_fill_d0a16_1 rfl hl (by decide) rfl (fun ls hl => ?_)
  refine lv_aload_n hx hb dJ7_fill_d0a16_2 rfl (lv_at hl 1 rfl) ?_
  refine g_lalen (v := (nI n)) F hK hP 0 rfl rfl dJ7_fill_d0a16_3 ?_
  refine lv_istore (lv' := [(4, .int (nI n)), (3, .int 0), (0, .ref a), (1, .long v)]) hx hb dJ7_fill_d0a16_4 hl (by decide) rfl (fun ls hl => ?_)
  refine lp_fillJ G n a v hn (by exact Nat.le_of_ble_eq_true rfl) (by exact Nat.le_of_ble_eq_true rfl) (by exact Nat.le_of_ble_eq_true rfl) (by exact Nat.le_of_ble_eq_true rfl) F hK hA (fun v1 H locs ls hI2 hP hD hS hl => ?_) n f 0 _ _ _ (by omega) (fun j h => absurd h (Nat.not_lt_zero j)) hP hD hS (lv_sub hl [1, 0, 2, 3] rfl)
  exact r_v F hr hlk hP hD hS v1 [0] rfl rfl hI2 dJ7_fill_d0a16_22 (Nat.le_of_ble_eq_true rfl) (Nat.le_of_ble_eq_true rfl)
end
section
def fBetter (a : Int32) : Int32 := if a < 1 then -1 else if 2000 < a then -1 else 0
def fFree (a : Int32) : Int32 := if a < 1 then -1 else if 60 < a then -1 else 1
end
section
set_option maxRecDepth 100000 in
theorem inX5 : ∀ w ∈ u_ws RX5 TX5 10, w ∈ tb := fun w h => List.mem_filter.mpr ⟨(by decide +kernel : ∀ w ∈ u_ws RX5 TX5 10, w ∈ lw_tbl) w h, (by decide +kernel : ∀ w ∈ u_ws RX5 TX5 10, goodWord w = true) w h⟩
theorem clX5 : ClF 5 RX5 TX5 10 tyX5 := ⟨rfl, inX5, tyX5_ok, nmX5⟩
set_option maxRecDepth 100000 in
theorem inX10 : ∀ w ∈ u_ws RX10 TX10 4, w ∈ tb := fun w h => List.mem_filter.mpr ⟨(by decide +kernel : ∀ w ∈ u_ws RX10 TX10 4, w ∈ lw_tbl) w h, (by decide +kernel : ∀ w ∈ u_ws RX10 TX10 4, goodWord w = true) w h⟩
theorem clX10 : ClF 10 RX10 TX10 4 tyX10 := ⟨rfl, inX10, tyX10_ok, nmX10⟩
theorem flX11_9 : Cond.fieldLink RX11 9 (TX11 0).1 (TX11 0).2.1 (TX11 0).2.2.1 ∈ tb := tb_at 661 (by decide +kernel)
theorem mlX11_93 : Cond.methodLink RX11 93 yX11_addBytes ∈ tb := tb_at 712 (by decide +kernel)
theorem kmV_X11_addBytes : KmV yX11_addBytes cX11_addBytes 3 none 1 := ⟨tb_at (w := Cond.code yX11_addBytes cX11_addBytes 3 none) 715 (by decide +kernel), tb_at (w := Cond.initialized RX11) 148 (by decide +kernel), tb_at (w := Cond.instanceMethod yX11_addBytes) 714 (by decide +kernel), tb_at (w := Cond.selects yX11_addBytes.cls yX11_addBytes yX11_addBytes) 2 (by decide +kernel), ⟨by decide +kernel, by decide +kernel, by decide +kernel⟩⟩
theorem flX9_25 : Cond.fieldLink RX9 25 (TX9 0).1 (TX9 0).2.1 (TX9 0).2.2.1 ∈ tb := tb_at 613 (by decide +kernel)
theorem flX9_29 : Cond.fieldLink RX9 29 (TX4 0).1 (TX4 0).2.1 (TX4 0).2.2.1 ∈ tb := tb_at 580 (by decide +kernel)
theorem flX9_35 : Cond.fieldLink RX9 35 (TX2 1).1 (TX2 1).2.1 (TX2 1).2.2.1 ∈ tb := tb_at 356 (by decide +kernel)
theorem flX9_9 : Cond.fieldLink RX9 9 (TX9 1).1 (TX9 1).2.1 (TX9 1).2.2.1 ∈ tb := tb_at 614 (by decide +kernel)
theorem flX9_22 : Cond.fieldLink RX9 22 (TX9 4).1 (TX9 4).2.1 (TX9 4).2.2.1 ∈ tb := tb_at 618 (by decide +kernel)
theorem mlX9_41 : Cond.methodLink RX9 41 yJ7_fill_53178 ∈ tb := tb_at 1194 (by decide +kernel)
theorem kmS_J7_fill_53178 : KmS yJ7_fill_53178 cJ7_fill_53178 4 none 2 := ⟨tb_at (w := Cond.code yJ7_fill_53178 cJ7_fill_53178 4 none) 578 (by decide +kernel), tb_at (w := Cond.initialized RJ7) 161 (by decide +kernel), tb_at (w := Cond.static yJ7_fill_53178) 577 (by decide +kernel), ⟨by decide +kernel, by decide +kernel, by decide +kernel⟩⟩
theorem flX9_19 : Cond.fieldLink RX9 19 (TX9 3).1 (TX9 3).2.1 (TX9 3).2.2.1 ∈ tb := tb_at 617 (by decide +kernel)
theorem cnX9_47 : Cond.constant RX9 47 1000000 ∈ tb := tb_at 1195 (by decide +kernel)
theorem flX9_48 : Cond.fieldLink RX9 48 (TX3 0).1 (TX3 0).2.1 (TX3 0).2.2.1 ∈ tb := tb_at 246 (by decide +kernel)
theorem flX9_15 : Cond.fieldLink RX9 15 (TX9 2).1 (TX9 2).2.1 (TX9 2).2.2.1 ∈ tb := tb_at 616 (by decide +kernel)
theorem flX9_84 : Cond.fieldLink RX9 84 (TX4 1).1 (TX4 1).2.1 (TX4 1).2.2.1 ∈ tb := tb_at 585 (by decide +kernel)
theorem aclX9 : Cond.methodLink RX9 85 arraycopyName ∈ tb := tb_at 1209 (by decide +kernel)
theorem acn : Cond.native arraycopyName ∈ tb := tb_at 1211 (by decide +kernel)
theorem acs : Cond.static arraycopyName ∈ tb := tb_at 1210 (by decide +kernel)
theorem aci : Cond.initialized "java/lang/System" ∈ tb := tb_at 168 (by decide +kernel)
theorem mlX9_91 : Cond.methodLink RX9 91 yX9_search ∈ tb := tb_at 1224 (by decide +kernel)
theorem kmV_X9_search : KmV yX9_search cX9_search 5 (some .int) 1 := ⟨tb_at (w := Cond.code yX9_search cX9_search 5 (some .int)) 1193 (by decide +kernel), tb_at (w := Cond.initialized RX9) 162 (by decide +kernel), tb_at (w := Cond.instanceMethod yX9_search) 1191 (by decide +kernel), tb_at (w := Cond.selects yX9_search.cls yX9_search yX9_search) 1192 (by decide +kernel), ⟨by decide +kernel, by decide +kernel, by decide +kernel⟩⟩
theorem mlX9_95 : Cond.methodLink RX9 95 yX4_total ∈ tb := tb_at 1238 (by decide +kernel)
theorem mlX11_260 : Cond.methodLink RX11 260 yX9_search ∈ tb := tb_at 1190 (by decide +kernel)
theorem mlX11_263 : Cond.methodLink RX11 263 yX9_takeFound ∈ tb := tb_at 1205 (by decide +kernel)
theorem kmV_X9_takeFound : KmV yX9_takeFound cX9_takeFound 1 none 0 := ⟨tb_at (w := Cond.code yX9_takeFound cX9_takeFound 1 none) 1208 (by decide +kernel), tb_at (w := Cond.initialized RX9) 162 (by decide +kernel), tb_at (w := Cond.instanceMethod yX9_takeFound) 1206 (by decide +kernel), tb_at (w := Cond.selects yX9_takeFound.cls yX9_takeFound yX9_takeFound) 1207 (by decide +kernel), ⟨by decide +kernel, by decide +kernel, by decide +kernel⟩⟩
theorem mlX11_269 : Cond.methodLink RX11 269 yX9_fewestDesks ∈ tb := tb_at 1220 (by decide +kernel)
theorem kmV_X9_fewestDesks : KmV yX9_fewestDesks cX9_fewestDesks 3 (some .int) 0 := ⟨tb_at (w := Cond.code yX9_fewestDesks cX9_fewestDesks 3 (some .int)) 1223 (by decide +kernel), tb_at (w := Cond.initialized RX9) 162 (by decide +kernel), tb_at (w := Cond.instanceMethod yX9_fewestDesks) 1221 (by decide +kernel), tb_at (w := Cond.selects yX9_fewestDesks.cls yX9_fewestDesks yX9_fewestDesks) 1222 (by decide +kernel), ⟨by decide +kernel, by decide +kernel, by decide +kernel⟩⟩
theorem mlX11_272 : Cond.methodLink RX11 272 yX4_holds ∈ tb := tb_at 1229 (by decide +kernel)
theorem kmV_X4_holds : KmV yX4_holds cX4_holds 1 (some .boolean) 0 := ⟨tb_at (w := Cond.code yX4_holds cX4_holds 1 (some .boolean)) 1232 (by decide +kernel), tb_at (w := Cond.initialized RX4) 160 (by decide +kernel), tb_at (w := Cond.instanceMethod yX4_holds) 1230 (by decide +kernel), tb_at (w := Cond.selects yX4_holds.cls yX4_holds yX4_holds) 1231 (by decide +kernel), ⟨by decide +kernel, by decide +kernel, by decide +kernel⟩⟩
theorem mlX11_275 : Cond.methodLink RX11 275 yX9_improve ∈ tb := tb_at 1234 (by decide +kernel)
theorem kmV_X9_improve : KmV yX9_improve cX9_improve 12 (some .int) 1 := ⟨tb_at (w := Cond.code yX9_improve cX9_improve 12 (some .int)) 1237 (by decide +kernel), tb_at (w := Cond.initialized RX9) 162 (by decide +kernel), tb_at (w := Cond.instanceMethod yX9_improve) 1235 (by decide +kernel), tb_at (w := Cond.selects yX9_improve.cls yX9_improve yX9_improve) 1236 (by decide +kernel), ⟨by decide +kernel, by decide +kernel, by decide +kernel⟩⟩
theorem mlX4_172 : Cond.methodLink RX4 172 yX4_goRound ∈ tb := tb_at 1386 (by decide +kernel)
theorem kmV_X4_goRound : KmV yX4_goRound cX4_goRound 4 (some .boolean) 0 := ⟨tb_at (w := Cond.code yX4_goRound cX4_goRound 4 (some .boolean)) 1389 (by decide +kernel), tb_at (w := Cond.initialized RX4) 160 (by decide +kernel), tb_at (w := Cond.instanceMethod yX4_goRound) 1388 (by decide +kernel), tb_at (w := Cond.selects yX4_goRound.cls yX4_goRound yX4_goRound) 55 (by decide +kernel), ⟨by decide +kernel, by decide +kernel, by decide +kernel⟩⟩
theorem mlX11_347 : Cond.methodLink RX11 347 yX4_roundsTillRest ∈ tb := tb_at 1382 (by decide +kernel)
theorem kmV_X4_roundsTillRest : KmV yX4_roundsTillRest cX4_roundsTillRest 3 (some .int) 1 := ⟨tb_at (w := Cond.code yX4_roundsTillRest cX4_roundsTillRest 3 (some .int)) 1385 (by decide +kernel), tb_at (w := Cond.initialized RX4) 160 (by decide +kernel), tb_at (w := Cond.instanceMethod yX4_roundsTillRest) 1383 (by decide +kernel), tb_at (w := Cond.selects yX4_roundsTillRest.cls yX4_roundsTillRest yX4_roundsTillRest) 1384 (by decide +kernel), ⟨by decide +kernel, by decide +kernel, by decide +kernel⟩⟩
theorem flX11_80 : Cond.fieldLink RX11 80 (TX11 11).1 (TX11 11).2.1 (TX11 11).2.2.1 ∈ tb := tb_at 672 (by decide +kernel)
theorem mlX11_373 : Cond.methodLink RX11 373 yX11_checkByte ∈ tb := tb_at 1486 (by decide +kernel)
theorem kmS_X11_checkByte : KmS yX11_checkByte cX11_checkByte 4 (some .int) 2 := ⟨tb_at (w := Cond.code yX11_checkByte cX11_checkByte 4 (some .int)) 1488 (by decide +kernel), tb_at (w := Cond.initialized RX11) 148 (by decide +kernel), tb_at (w := Cond.static yX11_checkByte) 1487 (by decide +kernel), ⟨by decide +kernel, by decide +kernel, by decide +kernel⟩⟩
theorem mlX11_377 : Cond.methodLink RX11 377 yX11_isImage ∈ tb := tb_at 1497 (by decide +kernel)
theorem kmV_X11_isImage : KmV yX11_isImage cX11_isImage 2 (some .boolean) 0 := ⟨tb_at (w := Cond.code yX11_isImage cX11_isImage 2 (some .boolean)) 1500 (by decide +kernel), tb_at (w := Cond.initialized RX11) 148 (by decide +kernel), tb_at (w := Cond.instanceMethod yX11_isImage) 1499 (by decide +kernel), tb_at (w := Cond.selects yX11_isImage.cls yX11_isImage yX11_isImage) 64 (by decide +kernel), ⟨by decide +kernel, by decide +kernel, by decide +kernel⟩⟩
theorem flX1_9 : Cond.fieldLink RX1 9 (TX1 0).1 (TX1 0).2.1 (TX1 0).2.2.1 ∈ tb := tb_at 189 (by decide +kernel)
theorem flX1_15 : Cond.fieldLink RX1 15 (TX1 1).1 (TX1 1).2.1 (TX1 1).2.2.1 ∈ tb := tb_at 194 (by decide +kernel)
theorem flX1_18 : Cond.fieldLink RX1 18 (TX1 2).1 (TX1 2).2.1 (TX1 2).2.2.1 ∈ tb := tb_at 198 (by decide +kernel)
theorem flX7_9 : Cond.fieldLink RX7 9 (TX7 0).1 (TX7 0).2.1 (TX7 0).2.2.1 ∈ tb := tb_at 322 (by decide +kernel)
theorem flX7_15 : Cond.fieldLink RX7 15 (TX7 1).1 (TX7 1).2.1 (TX7 1).2.2.1 ∈ tb := tb_at 326 (by decide +kernel)
theorem flX2_12 : Cond.fieldLink RX2 12 (TX2 0).1 (TX2 0).2.1 (TX2 0).2.2.1 ∈ tb := tb_at 350 (by decide +kernel)
theorem mlX2_68 : Cond.methodLink RX2 68 yX1_clear ∈ tb := tb_at 732 (by decide +kernel)
theorem kmV_X1_clear : KmV yX1_clear cX1_clear 1 none 0 := ⟨tb_at (w := Cond.code yX1_clear cX1_clear 1 none) 735 (by decide +kernel), tb_at (w := Cond.initialized RX1) 150 (by decide +kernel), tb_at (w := Cond.instanceMethod yX1_clear) 733 (by decide +kernel), tb_at (w := Cond.selects yX1_clear.cls yX1_clear yX1_clear) 734 (by decide +kernel), ⟨by decide +kernel, by decide +kernel, by decide +kernel⟩⟩
theorem flX2_21 : Cond.fieldLink RX2 21 (TX2 1).1 (TX2 1).2.1 (TX2 1).2.2.1 ∈ tb := tb_at 355 (by decide +kernel)
theorem flX2_71 : Cond.fieldLink RX2 71 (TX3 0).1 (TX3 0).2.1 (TX3 0).2.2.1 ∈ tb := tb_at 245 (by decide +kernel)
theorem flX2_28 : Cond.fieldLink RX2 28 (TX2 2).1 (TX2 2).2.1 (TX2 2).2.2.1 ∈ tb := tb_at 363 (by decide +kernel)
theorem mlX2_74 : Cond.methodLink RX2 74 yX7_clear ∈ tb := tb_at 736 (by decide +kernel)
theorem kmV_X7_clear : KmV yX7_clear cX7_clear 1 none 0 := ⟨tb_at (w := Cond.code yX7_clear cX7_clear 1 none) 739 (by decide +kernel), tb_at (w := Cond.initialized RX7) 152 (by decide +kernel), tb_at (w := Cond.instanceMethod yX7_clear) 737 (by decide +kernel), tb_at (w := Cond.selects yX7_clear.cls yX7_clear yX7_clear) 738 (by decide +kernel), ⟨by decide +kernel, by decide +kernel, by decide +kernel⟩⟩
theorem flX2_65 : Cond.fieldLink RX2 65 (TX2 13).1 (TX2 13).2.1 (TX2 13).2.2.1 ∈ tb := tb_at 401 (by decide +kernel)
theorem flX2_59 : Cond.fieldLink RX2 59 (TX2 11).1 (TX2 11).2.1 (TX2 11).2.2.1 ∈ tb := tb_at 393 (by decide +kernel)
theorem flX2_62 : Cond.fieldLink RX2 62 (TX2 12).1 (TX2 12).2.1 (TX2 12).2.2.1 ∈ tb := tb_at 397 (by decide +kernel)
theorem flX3_9 : Cond.fieldLink RX3 9 (TX3 0).1 (TX3 0).2.1 (TX3 0).2.2.1 ∈ tb := tb_at 244 (by decide +kernel)
theorem mlX2_75 : Cond.methodLink RX2 75 yX3_listSuiting ∈ tb := tb_at 1013 (by decide +kernel)
theorem kmV_X3_listSuiting : KmV yX3_listSuiting cX3_listSuiting 4 none 0 := ⟨tb_at (w := Cond.code yX3_listSuiting cX3_listSuiting 4 none) 1016 (by decide +kernel), tb_at (w := Cond.initialized RX3) 151 (by decide +kernel), tb_at (w := Cond.instanceMethod yX3_listSuiting) 1014 (by decide +kernel), tb_at (w := Cond.selects yX3_listSuiting.cls yX3_listSuiting yX3_listSuiting) 1015 (by decide +kernel), ⟨by decide +kernel, by decide +kernel, by decide +kernel⟩⟩
theorem flX2_44 : Cond.fieldLink RX2 44 (TX2 6).1 (TX2 6).2.1 (TX2 6).2.2.1 ∈ tb := tb_at 376 (by decide +kernel)
theorem flX4_9 : Cond.fieldLink RX4 9 (TX4 1).1 (TX4 1).2.1 (TX4 1).2.2.1 ∈ tb := tb_at 584 (by decide +kernel)
theorem mlX4_33 : Cond.methodLink RX4 33 yJ7_fill_53178 ∈ tb := tb_at 576 (by decide +kernel)
theorem flX4_25 : Cond.fieldLink RX4 25 (TX4 5).1 (TX4 5).2.1 (TX4 5).2.2.1 ∈ tb := tb_at 593 (by decide +kernel)
theorem cnX4_32 : Cond.constant RX4 32 (-2000000) ∈ tb := tb_at 575 (by decide +kernel)
theorem flX5_30 : Cond.fieldLink RX5 30 (TX5 7).1 (TX5 7).2.1 (TX5 7).2.2.1 ∈ tb := tb_at 510 (by decide +kernel)
theorem flX5_21 : Cond.fieldLink RX5 21 (TX5 4).1 (TX5 4).2.1 (TX5 4).2.2.1 ∈ tb := tb_at 503 (by decide +kernel)
theorem mlX5_85 : Cond.methodLink RX5 85 yX5_isFailed ∈ tb := tb_at 754 (by decide +kernel)
theorem kmV_X5_isFailed : KmV yX5_isFailed cX5_isFailed 1 (some .boolean) 0 := ⟨tb_at (w := Cond.code yX5_isFailed cX5_isFailed 1 (some .boolean)) 757 (by decide +kernel), tb_at (w := Cond.initialized RX5) 154 (by decide +kernel), tb_at (w := Cond.instanceMethod yX5_isFailed) 755 (by decide +kernel), tb_at (w := Cond.selects yX5_isFailed.cls yX5_isFailed yX5_isFailed) 756 (by decide +kernel), ⟨by decide +kernel, by decide +kernel, by decide +kernel⟩⟩
theorem flX5_15 : Cond.fieldLink RX5 15 (TX5 2).1 (TX5 2).2.1 (TX5 2).2.2.1 ∈ tb := tb_at 501 (by decide +kernel)
theorem flX5_9 : Cond.fieldLink RX5 9 (TX5 1).1 (TX5 1).2.1 (TX5 1).2.2.1 ∈ tb := tb_at 500 (by decide +kernel)
theorem flX5_18 : Cond.fieldLink RX5 18 (TX5 3).1 (TX5 3).2.1 (TX5 3).2.2.1 ∈ tb := tb_at 502 (by decide +kernel)
theorem flX5_27 : Cond.fieldLink RX5 27 (TX5 6).1 (TX5 6).2.1 (TX5 6).2.2.1 ∈ tb := tb_at 507 (by decide +kernel)
theorem flX5_40 : Cond.fieldLink RX5 40 (TX5 0).1 (TX5 0).2.1 (TX5 0).2.2.1 ∈ tb := tb_at 499 (by decide +kernel)
theorem mlX5_62 : Cond.methodLink RX5 62 yJ9_min_7cf53 ∈ tb := tb_at 744 (by decide +kernel)
theorem mmX5_min : Cond.methodLink RX5 62 Lib.Math.min.name ∈ tb := tb_at 744 (by decide +kernel)
theorem mms_min : Cond.static Lib.Math.min.name ∈ tb := tb_at 745 (by decide +kernel)
theorem mmc_min : Cond.code Lib.Math.min.name Lib.Math.min.code 2 (some .int) ∈ tb := tb_at 746 (by decide +kernel)
theorem mlX5_67 : Cond.methodLink RX5 67 yJ9_max_7cf53 ∈ tb := tb_at 747 (by decide +kernel)
theorem mmX5_max : Cond.methodLink RX5 67 Lib.Math.max.name ∈ tb := tb_at 747 (by decide +kernel)
theorem flX5_33 : Cond.fieldLink RX5 33 (TX5 8).1 (TX5 8).2.1 (TX5 8).2.2.1 ∈ tb := tb_at 512 (by decide +kernel)
theorem mlX5_70 : Cond.methodLink RX5 70 yX5_take ∈ tb := tb_at 750 (by decide +kernel)
theorem kmV_X5_take : KmV yX5_take cX5_take 4 none 0 := ⟨tb_at (w := Cond.code yX5_take cX5_take 4 none) 753 (by decide +kernel), tb_at (w := Cond.initialized RX5) 154 (by decide +kernel), tb_at (w := Cond.instanceMethod yX5_take) 751 (by decide +kernel), tb_at (w := Cond.selects yX5_take.cls yX5_take yX5_take) 752 (by decide +kernel), ⟨by decide +kernel, by decide +kernel, by decide +kernel⟩⟩
theorem flX10_19 : Cond.fieldLink RX10 19 (TX10 2).1 (TX10 2).2.1 (TX10 2).2.2.1 ∈ tb := tb_at 557 (by decide +kernel)
theorem mlX10_38 : Cond.methodLink RX10 38 yX2_clear ∈ tb := tb_at 728 (by decide +kernel)
theorem kmV_X2_clear : KmV yX2_clear cX2_clear 2 none 0 := ⟨tb_at (w := Cond.code yX2_clear cX2_clear 2 none) 731 (by decide +kernel), tb_at (w := Cond.initialized RX2) 149 (by decide +kernel), tb_at (w := Cond.instanceMethod yX2_clear) 729 (by decide +kernel), tb_at (w := Cond.selects yX2_clear.cls yX2_clear yX2_clear) 730 (by decide +kernel), ⟨by decide +kernel, by decide +kernel, by decide +kernel⟩⟩
theorem flX10_9 : Cond.fieldLink RX10 9 (TX10 3).1 (TX10 3).2.1 (TX10 3).2.2.1 ∈ tb := tb_at 558 (by decide +kernel)
theorem flX10_15 : Cond.fieldLink RX10 15 (TX10 0).1 (TX10 0).2.1 (TX10 0).2.2.1 ∈ tb := tb_at 554 (by decide +kernel)
theorem mlX10_41 : Cond.methodLink RX10 41 yX5_begin ∈ tb := tb_at 740 (by decide +kernel)
theorem kmV_X5_begin : KmV yX5_begin cX5_begin 2 none 1 := ⟨tb_at (w := Cond.code yX5_begin cX5_begin 2 none) 743 (by decide +kernel), tb_at (w := Cond.initialized RX5) 154 (by decide +kernel), tb_at (w := Cond.instanceMethod yX5_begin) 741 (by decide +kernel), tb_at (w := Cond.selects yX5_begin.cls yX5_begin yX5_begin) 742 (by decide +kernel), ⟨by decide +kernel, by decide +kernel, by decide +kernel⟩⟩
theorem flX11_34 : Cond.fieldLink RX11 34 (TX11 3).1 (TX11 3).2.1 (TX11 3).2.2.1 ∈ tb := tb_at 664 (by decide +kernel)
theorem flX11_20 : Cond.fieldLink RX11 20 (TX11 2).1 (TX11 2).2.1 (TX11 2).2.2.1 ∈ tb := tb_at 663 (by decide +kernel)
theorem mlX11_97 : Cond.methodLink RX11 97 yX10_begin ∈ tb := tb_at 724 (by decide +kernel)
theorem kmV_X10_begin : KmV yX10_begin cX10_begin 3 none 2 := ⟨tb_at (w := Cond.code yX10_begin cX10_begin 3 none) 727 (by decide +kernel), tb_at (w := Cond.initialized RX10) 153 (by decide +kernel), tb_at (w := Cond.instanceMethod yX10_begin) 725 (by decide +kernel), tb_at (w := Cond.selects yX10_begin.cls yX10_begin yX10_begin) 726 (by decide +kernel), ⟨by decide +kernel, by decide +kernel, by decide +kernel⟩⟩
theorem flX11_101 : Cond.fieldLink RX11 101 (TX10 0).1 (TX10 0).2.1 (TX10 0).2.2.1 ∈ tb := tb_at 555 (by decide +kernel)
theorem mlX11_105 : Cond.methodLink RX11 105 yX5_isOver ∈ tb := tb_at 783 (by decide +kernel)
theorem kmV_X5_isOver : KmV yX5_isOver cX5_isOver 1 (some .boolean) 0 := ⟨tb_at (w := Cond.code yX5_isOver cX5_isOver 1 (some .boolean)) 786 (by decide +kernel), tb_at (w := Cond.initialized RX5) 154 (by decide +kernel), tb_at (w := Cond.instanceMethod yX5_isOver) 784 (by decide +kernel), tb_at (w := Cond.selects yX5_isOver.cls yX5_isOver yX5_isOver) 785 (by decide +kernel), ⟨by decide +kernel, by decide +kernel, by decide +kernel⟩⟩
theorem flX11_112 : Cond.fieldLink RX11 112 (TX5 7).1 (TX5 7).2.1 (TX5 7).2.2.1 ∈ tb := tb_at 511 (by decide +kernel)
theorem flX11_115 : Cond.fieldLink RX11 115 (TX5 8).1 (TX5 8).2.1 (TX5 8).2.2.1 ∈ tb := tb_at 513 (by decide +kernel)
theorem mlX11_118 : Cond.methodLink RX11 118 yX2_finish ∈ tb := tb_at 1009 (by decide +kernel)
theorem kmV_X2_finish : KmV yX2_finish cX2_finish 2 none 0 := ⟨tb_at (w := Cond.code yX2_finish cX2_finish 2 none) 1012 (by decide +kernel), tb_at (w := Cond.initialized RX2) 149 (by decide +kernel), tb_at (w := Cond.instanceMethod yX2_finish) 1010 (by decide +kernel), tb_at (w := Cond.selects yX2_finish.cls yX2_finish yX2_finish) 1011 (by decide +kernel), ⟨by decide +kernel, by decide +kernel, by decide +kernel⟩⟩
theorem mlX11_124 : Cond.methodLink RX11 124 yX4_begin ∈ tb := tb_at 1027 (by decide +kernel)
theorem kmV_X4_begin : KmV yX4_begin cX4_begin 2 none 1 := ⟨tb_at (w := Cond.code yX4_begin cX4_begin 2 none) 1030 (by decide +kernel), tb_at (w := Cond.initialized RX4) 160 (by decide +kernel), tb_at (w := Cond.instanceMethod yX4_begin) 1028 (by decide +kernel), tb_at (w := Cond.selects yX4_begin.cls yX4_begin yX4_begin) 1029 (by decide +kernel), ⟨by decide +kernel, by decide +kernel, by decide +kernel⟩⟩
theorem flX11_126 : Cond.fieldLink RX11 126 (TX10 3).1 (TX10 3).2.1 (TX10 3).2.2.1 ∈ tb := tb_at 559 (by decide +kernel)
theorem dX11_addBytes_0 : decode cX11_addBytes 0 = .ok (.bipush 24, 2) := by decide +kernel
theorem dX11_addBytes_11 : decode cX11_addBytes 11 = .ok (.aload_n 0, 1) := by decide +kernel
theorem dX11_addBytes_12 : decode cX11_addBytes 12 = .ok (.getfield 9, 3) := by decide +kernel
theorem dX11_addBytes_15 : decode cX11_addBytes 15 = .ok (.arraylength, 1) := by decide +kernel
theorem dX11_addBytes_16 : decode cX11_addBytes 16 = .ok (.if_icmp .ge 35, 3) := by decide +kernel
theorem dX11_addBytes_19 : decode cX11_addBytes 19 = .ok (.aload_n 0, 1) := by decide +kernel
theorem dX11_addBytes_2 : decode cX11_addBytes 2 = .ok (.istore_n 2, 1) := by decide +kernel
theorem dX11_addBytes_20 : decode cX11_addBytes 20 = .ok (.getfield 9, 3) := by decide +kernel
theorem dX11_addBytes_23 : decode cX11_addBytes 23 = .ok (.aload_n 0, 1) := by decide +kernel
theorem dX11_addBytes_24 : decode cX11_addBytes 24 = .ok (.getfield 13, 3) := by decide +kernel
theorem dX11_addBytes_27 : decode cX11_addBytes 27 = .ok (.iload_n 1, 1) := by decide +kernel
theorem dX11_addBytes_28 : decode cX11_addBytes 28 = .ok (.iload_n 2, 1) := by decide +kernel
theorem dX11_addBytes_29 : decode cX11_addBytes 29 = .ok (.ishr, 1) := by decide +kernel
theorem dX11_addBytes_3 : decode cX11_addBytes 3 = .ok (.iload_n 2, 1) := by decide +kernel
theorem dX11_addBytes_30 : decode cX11_addBytes 30 = .ok (.sipush 255, 3) := by decide +kernel
theorem dX11_addBytes_33 : decode cX11_addBytes 33 = .ok (.iand, 1) := by decide +kernel
theorem dX11_addBytes_34 : decode cX11_addBytes 34 = .ok (.iastore, 1) := by decide +kernel
theorem dX11_addBytes_35 : decode cX11_addBytes 35 = .ok (.aload_n 0, 1) := by decide +kernel
theorem dX11_addBytes_36 : decode cX11_addBytes 36 = .ok (.dup, 1) := by decide +kernel
theorem dX11_addBytes_37 : decode cX11_addBytes 37 = .ok (.getfield 13, 3) := by decide +kernel
theorem dX11_addBytes_4 : decode cX11_addBytes 4 = .ok (.ifCond .lt 47, 3) := by decide +kernel
theorem dX11_addBytes_40 : decode cX11_addBytes 40 = .ok (.iconst 1, 1) := by decide +kernel
theorem dX11_addBytes_41 : decode cX11_addBytes 41 = .ok (.iadd, 1) := by decide +kernel
theorem dX11_addBytes_42 : decode cX11_addBytes 42 = .ok (.putfield 13, 3) := by decide +kernel
theorem dX11_addBytes_45 : decode cX11_addBytes 45 = .ok (.iinc 2 (-8), 3) := by decide +kernel
theorem dX11_addBytes_48 : decode cX11_addBytes 48 = .ok (.goto (-45), 3) := by decide +kernel
theorem dX11_addBytes_51 : decode cX11_addBytes 51 = .ok (.return_, 1) := by decide +kernel
theorem dX11_addBytes_7 : decode cX11_addBytes 7 = .ok (.aload_n 0, 1) := by decide +kernel
theorem dX11_addBytes_8 : decode cX11_addBytes 8 = .ok (.getfield 13, 3) := by decide +kernel
theorem dX11_feed_0 : decode cX11_feed 0 = .ok (.aload_n 0, 1) := by decide +kernel
theorem dX11_feed_1 : decode cX11_feed 1 = .ok (.getfield 13, 3) := by decide +kernel
theorem dX11_feed_10 : decode cX11_feed 10 = .ok (.if_icmp .le 9, 3) := by decide +kernel
theorem dX11_feed_19 : decode cX11_feed 19 = .ok (.aload_n 0, 1) := by decide +kernel
theorem dX11_feed_20 : decode cX11_feed 20 = .ok (.iload_n 1, 1) := by decide +kernel
theorem dX11_feed_21 : decode cX11_feed 21 = .ok (.invokevirtual 93, 3) := by decide +kernel
theorem dX11_feed_24 : decode cX11_feed 24 = .ok (.aload_n 0, 1) := by decide +kernel
theorem dX11_feed_25 : decode cX11_feed 25 = .ok (.iload_n 2, 1) := by decide +kernel
theorem dX11_feed_26 : decode cX11_feed 26 = .ok (.invokevirtual 93, 3) := by decide +kernel
theorem dX11_feed_29 : decode cX11_feed 29 = .ok (.aload_n 0, 1) := by decide +kernel
theorem dX11_feed_30 : decode cX11_feed 30 = .ok (.iload_n 3, 1) := by decide +kernel
theorem dX11_feed_31 : decode cX11_feed 31 = .ok (.invokevirtual 93, 3) := by decide +kernel
theorem dX11_feed_34 : decode cX11_feed 34 = .ok (.aload_n 0, 1) := by decide +kernel
theorem dX11_feed_35 : decode cX11_feed 35 = .ok (.iload 4, 2) := by decide +kernel
theorem dX11_feed_37 : decode cX11_feed 37 = .ok (.invokevirtual 93, 3) := by decide +kernel
theorem dX11_feed_4 : decode cX11_feed 4 = .ok (.bipush 20, 2) := by decide +kernel
theorem dX11_feed_40 : decode cX11_feed 40 = .ok (.aload_n 0, 1) := by decide +kernel
theorem dX11_feed_41 : decode cX11_feed 41 = .ok (.iload 5, 2) := by decide +kernel
theorem dX11_feed_43 : decode cX11_feed 43 = .ok (.invokevirtual 93, 3) := by decide +kernel
theorem dX11_feed_46 : decode cX11_feed 46 = .ok (.aload_n 0, 1) := by decide +kernel
theorem dX11_feed_47 : decode cX11_feed 47 = .ok (.getfield 13, 3) := by decide +kernel
theorem dX11_feed_50 : decode cX11_feed 50 = .ok (.ireturn, 1) := by decide +kernel
theorem dX11_feed_6 : decode cX11_feed 6 = .ok (.iadd, 1) := by decide +kernel
theorem dX11_feed_7 : decode cX11_feed 7 = .ok (.sipush 1800, 3) := by decide +kernel
theorem dX9_search_0 : decode cX9_search 0 = .ok (.aload_n 0, 1) := by decide +kernel
theorem dX9_search_1 : decode cX9_search 1 = .ok (.getfield 25, 3) := by decide +kernel
theorem dX9_search_10 : decode cX9_search 10 = .ok (.astore_n 2, 1) := by decide +kernel
theorem dX9_search_11 : decode cX9_search 11 = .ok (.aload_n 0, 1) := by decide +kernel
theorem dX9_search_12 : decode cX9_search 12 = .ok (.iconst 0, 1) := by decide +kernel
theorem dX9_search_13 : decode cX9_search 13 = .ok (.putfield 9, 3) := by decide +kernel
theorem dX9_search_16 : decode cX9_search 16 = .ok (.aload_n 0, 1) := by decide +kernel
theorem dX9_search_17 : decode cX9_search 17 = .ok (.getfield 22, 3) := by decide +kernel
theorem dX9_search_178 : decode cX9_search 178 = .ok (.iconst 1, 1) := by decide +kernel
theorem dX9_search_179 : decode cX9_search 179 = .ok (.ireturn, 1) := by decide +kernel
theorem dX9_search_20 : decode cX9_search 20 = .ok (.iconst 0, 1) := by decide +kernel
theorem dX9_search_21 : decode cX9_search 21 = .ok (.invokestatic 41, 3) := by decide +kernel
theorem dX9_search_24 : decode cX9_search 24 = .ok (.aload_n 0, 1) := by decide +kernel
theorem dX9_search_25 : decode cX9_search 25 = .ok (.getfield 19, 3) := by decide +kernel
theorem dX9_search_28 : decode cX9_search 28 = .ok (.iconst 0, 1) := by decide +kernel
theorem dX9_search_29 : decode cX9_search 29 = .ok (.iconst 0, 1) := by decide +kernel
theorem dX9_search_30 : decode cX9_search 30 = .ok (.iastore, 1) := by decide +kernel
theorem dX9_search_31 : decode cX9_search 31 = .ok (.iconst 0, 1) := by decide +kernel
theorem dX9_search_32 : decode cX9_search 32 = .ok (.istore_n 3, 1) := by decide +kernel
theorem dX9_search_33 : decode cX9_search 33 = .ok (.iconst 0, 1) := by decide +kernel
theorem dX9_search_34 : decode cX9_search 34 = .ok (.istore 4, 2) := by decide +kernel
theorem dX9_search_36 : decode cX9_search 36 = .ok (.iload 4, 2) := by decide +kernel
theorem dX9_search_38 : decode cX9_search 38 = .ok (.ldc 47, 2) := by decide +kernel
theorem dX9_search_4 : decode cX9_search 4 = .ok (.getfield 29, 3) := by decide +kernel
theorem dX9_search_40 : decode cX9_search 40 = .ok (.if_icmp .ge 138, 3) := by decide +kernel
theorem dX9_search_43 : decode cX9_search 43 = .ok (.iload_n 3, 1) := by decide +kernel
theorem dX9_search_44 : decode cX9_search 44 = .ok (.aload_n 2, 1) := by decide +kernel
theorem dX9_search_45 : decode cX9_search 45 = .ok (.getfield 48, 3) := by decide +kernel
theorem dX9_search_48 : decode cX9_search 48 = .ok (.if_icmp .ge 130, 3) := by decide +kernel
theorem dX9_search_7 : decode cX9_search 7 = .ok (.getfield 35, 3) := by decide +kernel
theorem dX9_takeFound_0 : decode cX9_takeFound 0 = .ok (.aload_n 0, 1) := by decide +kernel
theorem dX9_takeFound_1 : decode cX9_takeFound 1 = .ok (.getfield 15, 3) := by decide +kernel
theorem dX9_takeFound_12 : decode cX9_takeFound 12 = .ok (.iconst 0, 1) := by decide +kernel
theorem dX9_takeFound_13 : decode cX9_takeFound 13 = .ok (.aload_n 0, 1) := by decide +kernel
theorem dX9_takeFound_14 : decode cX9_takeFound 14 = .ok (.getfield 25, 3) := by decide +kernel
theorem dX9_takeFound_17 : decode cX9_takeFound 17 = .ok (.getfield 29, 3) := by decide +kernel
theorem dX9_takeFound_20 : decode cX9_takeFound 20 = .ok (.getfield 35, 3) := by decide +kernel
theorem dX9_takeFound_23 : decode cX9_takeFound 23 = .ok (.getfield 48, 3) := by decide +kernel
theorem dX9_takeFound_26 : decode cX9_takeFound 26 = .ok (.invokestatic 85, 3) := by decide +kernel
theorem dX9_takeFound_29 : decode cX9_takeFound 29 = .ok (.return_, 1) := by decide +kernel
theorem dX9_takeFound_4 : decode cX9_takeFound 4 = .ok (.iconst 0, 1) := by decide +kernel
theorem dX9_takeFound_5 : decode cX9_takeFound 5 = .ok (.aload_n 0, 1) := by decide +kernel
theorem dX9_takeFound_6 : decode cX9_takeFound 6 = .ok (.getfield 25, 3) := by decide +kernel
theorem dX9_takeFound_9 : decode cX9_takeFound 9 = .ok (.getfield 84, 3) := by decide +kernel
theorem dX9_fewestDesks_0 : decode cX9_fewestDesks 0 = .ok (.iconst 0, 1) := by decide +kernel
theorem dX9_fewestDesks_1 : decode cX9_fewestDesks 1 = .ok (.istore_n 1, 1) := by decide +kernel
theorem dX9_fewestDesks_10 : decode cX9_fewestDesks 10 = .ok (.invokevirtual 91, 3) := by decide +kernel
theorem dX9_fewestDesks_13 : decode cX9_fewestDesks 13 = .ok (.istore_n 2, 1) := by decide +kernel
theorem dX9_fewestDesks_14 : decode cX9_fewestDesks 14 = .ok (.iload_n 2, 1) := by decide +kernel
theorem dX9_fewestDesks_15 : decode cX9_fewestDesks 15 = .ok (.iconst 1, 1) := by decide +kernel
theorem dX9_fewestDesks_16 : decode cX9_fewestDesks 16 = .ok (.if_icmp .ne 5, 3) := by decide +kernel
theorem dX9_fewestDesks_19 : decode cX9_fewestDesks 19 = .ok (.iload_n 1, 1) := by decide +kernel
theorem dX9_fewestDesks_2 : decode cX9_fewestDesks 2 = .ok (.iload_n 1, 1) := by decide +kernel
theorem dX9_fewestDesks_20 : decode cX9_fewestDesks 20 = .ok (.ireturn, 1) := by decide +kernel
theorem dX9_fewestDesks_3 : decode cX9_fewestDesks 3 = .ok (.bipush 20, 2) := by decide +kernel
theorem dX9_fewestDesks_5 : decode cX9_fewestDesks 5 = .ok (.if_icmp .gt 50, 3) := by decide +kernel
theorem dX9_fewestDesks_8 : decode cX9_fewestDesks 8 = .ok (.aload_n 0, 1) := by decide +kernel
theorem dX9_fewestDesks_9 : decode cX9_fewestDesks 9 = .ok (.iload_n 1, 1) := by decide +kernel
theorem dX9_improve_0 : decode cX9_improve 0 = .ok (.aload_n 0, 1) := by decide +kernel
theorem dX9_improve_1 : decode cX9_improve 1 = .ok (.getfield 25, 3) := by decide +kernel
theorem dX9_improve_10 : decode cX9_improve 10 = .ok (.astore_n 2, 1) := by decide +kernel
theorem dX9_improve_11 : decode cX9_improve 11 = .ok (.aload_n 0, 1) := by decide +kernel
theorem dX9_improve_12 : decode cX9_improve 12 = .ok (.getfield 25, 3) := by decide +kernel
theorem dX9_improve_15 : decode cX9_improve 15 = .ok (.invokevirtual 95, 3) := by decide +kernel
theorem dX9_improve_18 : decode cX9_improve 18 = .ok (.istore_n 3, 1) := by decide +kernel
theorem dX9_improve_19 : decode cX9_improve 19 = .ok (.iconst 0, 1) := by decide +kernel
theorem dX9_improve_195 : decode cX9_improve 195 = .ok (.iload 4, 2) := by decide +kernel
theorem dX9_improve_197 : decode cX9_improve 197 = .ok (.ireturn, 1) := by decide +kernel
theorem dX9_improve_20 : decode cX9_improve 20 = .ok (.istore 4, 2) := by decide +kernel
theorem dX9_improve_22 : decode cX9_improve 22 = .ok (.iconst 0, 1) := by decide +kernel
theorem dX9_improve_23 : decode cX9_improve 23 = .ok (.istore 5, 2) := by decide +kernel
theorem dX9_improve_25 : decode cX9_improve 25 = .ok (.iconst 0, 1) := by decide +kernel
theorem dX9_improve_26 : decode cX9_improve 26 = .ok (.istore 6, 2) := by decide +kernel
theorem dX9_improve_28 : decode cX9_improve 28 = .ok (.iconst 0, 1) := by decide +kernel
theorem dX9_improve_29 : decode cX9_improve 29 = .ok (.istore 7, 2) := by decide +kernel
theorem dX9_improve_31 : decode cX9_improve 31 = .ok (.iconst 0, 1) := by decide +kernel
theorem dX9_improve_32 : decode cX9_improve 32 = .ok (.istore 8, 2) := by decide +kernel
theorem dX9_improve_34 : decode cX9_improve 34 = .ok (.iload 8, 2) := by decide +kernel
theorem dX9_improve_36 : decode cX9_improve 36 = .ok (.ldc 47, 2) := by decide +kernel
theorem dX9_improve_38 : decode cX9_improve 38 = .ok (.if_icmp .ge 157, 3) := by decide +kernel
theorem dX9_improve_4 : decode cX9_improve 4 = .ok (.getfield 29, 3) := by decide +kernel
theorem dX9_improve_41 : decode cX9_improve 41 = .ok (.iload 6, 2) := by decide +kernel
theorem dX9_improve_43 : decode cX9_improve 43 = .ok (.aload_n 2, 1) := by decide +kernel
theorem dX9_improve_44 : decode cX9_improve 44 = .ok (.getfield 48, 3) := by decide +kernel
theorem dX9_improve_47 : decode cX9_improve 47 = .ok (.if_icmp .ge 148, 3) := by decide +kernel
theorem dX9_improve_7 : decode cX9_improve 7 = .ok (.getfield 35, 3) := by decide +kernel
theorem dX11_seek_0 : decode cX11_seek 0 = .ok (.aload_n 0, 1) := by decide +kernel
theorem dX11_seek_1 : decode cX11_seek 1 = .ok (.getfield 52, 3) := by decide +kernel
theorem dX11_seek_11 : decode cX11_seek 11 = .ok (.getfield 129, 3) := by decide +kernel
theorem dX11_seek_14 : decode cX11_seek 14 = .ok (.getfield 149, 3) := by decide +kernel
theorem dX11_seek_17 : decode cX11_seek 17 = .ok (.aload_n 0, 1) := by decide +kernel
theorem dX11_seek_18 : decode cX11_seek 18 = .ok (.getfield 43, 3) := by decide +kernel
theorem dX11_seek_21 : decode cX11_seek 21 = .ok (.getfield 121, 3) := by decide +kernel
theorem dX11_seek_24 : decode cX11_seek 24 = .ok (.getfield 129, 3) := by decide +kernel
theorem dX11_seek_27 : decode cX11_seek 27 = .ok (.getfield 152, 3) := by decide +kernel
theorem dX11_seek_30 : decode cX11_seek 30 = .ok (.isub, 1) := by decide +kernel
theorem dX11_seek_31 : decode cX11_seek 31 = .ok (.invokevirtual 260, 3) := by decide +kernel
theorem dX11_seek_34 : decode cX11_seek 34 = .ok (.istore_n 1, 1) := by decide +kernel
theorem dX11_seek_35 : decode cX11_seek 35 = .ok (.iload_n 1, 1) := by decide +kernel
theorem dX11_seek_36 : decode cX11_seek 36 = .ok (.iconst 1, 1) := by decide +kernel
theorem dX11_seek_37 : decode cX11_seek 37 = .ok (.if_icmp .ne 10, 3) := by decide +kernel
theorem dX11_seek_4 : decode cX11_seek 4 = .ok (.aload_n 0, 1) := by decide +kernel
theorem dX11_seek_40 : decode cX11_seek 40 = .ok (.aload_n 0, 1) := by decide +kernel
theorem dX11_seek_41 : decode cX11_seek 41 = .ok (.getfield 52, 3) := by decide +kernel
theorem dX11_seek_44 : decode cX11_seek 44 = .ok (.invokevirtual 263, 3) := by decide +kernel
theorem dX11_seek_47 : decode cX11_seek 47 = .ok (.iload_n 1, 1) := by decide +kernel
theorem dX11_seek_48 : decode cX11_seek 48 = .ok (.ireturn, 1) := by decide +kernel
theorem dX11_seek_5 : decode cX11_seek 5 = .ok (.getfield 43, 3) := by decide +kernel
theorem dX11_seek_8 : decode cX11_seek 8 = .ok (.getfield 121, 3) := by decide +kernel
theorem dX11_fewest_0 : decode cX11_fewest 0 = .ok (.aload_n 0, 1) := by decide +kernel
theorem dX11_fewest_1 : decode cX11_fewest 1 = .ok (.getfield 52, 3) := by decide +kernel
theorem dX11_fewest_4 : decode cX11_fewest 4 = .ok (.invokevirtual 269, 3) := by decide +kernel
theorem dX11_fewest_7 : decode cX11_fewest 7 = .ok (.ireturn, 1) := by decide +kernel
theorem dX11_better_0 : decode cX11_better 0 = .ok (.iload_n 1, 1) := by decide +kernel
theorem dX11_better_1 : decode cX11_better 1 = .ok (.iconst 1, 1) := by decide +kernel
theorem dX11_better_12 : decode cX11_better 12 = .ok (.aload_n 0, 1) := by decide +kernel
theorem dX11_better_13 : decode cX11_better 13 = .ok (.getfield 43, 3) := by decide +kernel
theorem dX11_better_16 : decode cX11_better 16 = .ok (.invokevirtual 272, 3) := by decide +kernel
theorem dX11_better_19 : decode cX11_better 19 = .ok (.ifCond .ne 9, 3) := by decide +kernel
theorem dX11_better_2 : decode cX11_better 2 = .ok (.if_icmp .lt 20, 3) := by decide +kernel
theorem dX11_better_22 : decode cX11_better 22 = .ok (.aload_n 0, 1) := by decide +kernel
theorem dX11_better_23 : decode cX11_better 23 = .ok (.iconst 3, 1) := by decide +kernel
theorem dX11_better_24 : decode cX11_better 24 = .ok (.invokevirtual 89, 3) := by decide +kernel
theorem dX11_better_27 : decode cX11_better 27 = .ok (.ireturn, 1) := by decide +kernel
theorem dX11_better_28 : decode cX11_better 28 = .ok (.aload_n 0, 1) := by decide +kernel
theorem dX11_better_29 : decode cX11_better 29 = .ok (.getfield 52, 3) := by decide +kernel
theorem dX11_better_32 : decode cX11_better 32 = .ok (.iload_n 1, 1) := by decide +kernel
theorem dX11_better_33 : decode cX11_better 33 = .ok (.invokevirtual 275, 3) := by decide +kernel
theorem dX11_better_36 : decode cX11_better 36 = .ok (.ireturn, 1) := by decide +kernel
theorem dX11_better_5 : decode cX11_better 5 = .ok (.iload_n 1, 1) := by decide +kernel
theorem dX11_better_6 : decode cX11_better 6 = .ok (.sipush 2000, 3) := by decide +kernel
theorem dX11_better_9 : decode cX11_better 9 = .ok (.if_icmp .gt 13, 3) := by decide +kernel
theorem dX4_roundsTillRest_0 : decode cX4_roundsTillRest 0 = .ok (.iconst 1, 1) := by decide +kernel
theorem dX4_roundsTillRest_1 : decode cX4_roundsTillRest 1 = .ok (.istore_n 2, 1) := by decide +kernel
theorem dX4_roundsTillRest_11 : decode cX4_roundsTillRest 11 = .ok (.ifCond .ne 5, 3) := by decide +kernel
theorem dX4_roundsTillRest_14 : decode cX4_roundsTillRest 14 = .ok (.iload_n 2, 1) := by decide +kernel
theorem dX4_roundsTillRest_15 : decode cX4_roundsTillRest 15 = .ok (.ireturn, 1) := by decide +kernel
theorem dX4_roundsTillRest_2 : decode cX4_roundsTillRest 2 = .ok (.iload_n 2, 1) := by decide +kernel
theorem dX4_roundsTillRest_3 : decode cX4_roundsTillRest 3 = .ok (.iload_n 1, 1) := by decide +kernel
theorem dX4_roundsTillRest_4 : decode cX4_roundsTillRest 4 = .ok (.if_icmp .gt 18, 3) := by decide +kernel
theorem dX4_roundsTillRest_7 : decode cX4_roundsTillRest 7 = .ok (.aload_n 0, 1) := by decide +kernel
theorem dX4_roundsTillRest_8 : decode cX4_roundsTillRest 8 = .ok (.invokevirtual 172, 3) := by decide +kernel
theorem dX11_free_0 : decode cX11_free 0 = .ok (.iload_n 1, 1) := by decide +kernel
theorem dX11_free_1 : decode cX11_free 1 = .ok (.iconst 1, 1) := by decide +kernel
theorem dX11_free_11 : decode cX11_free 11 = .ok (.aload_n 0, 1) := by decide +kernel
theorem dX11_free_12 : decode cX11_free 12 = .ok (.iconst 3, 1) := by decide +kernel
theorem dX11_free_13 : decode cX11_free 13 = .ok (.invokevirtual 89, 3) := by decide +kernel
theorem dX11_free_16 : decode cX11_free 16 = .ok (.ireturn, 1) := by decide +kernel
theorem dX11_free_17 : decode cX11_free 17 = .ok (.aload_n 0, 1) := by decide +kernel
theorem dX11_free_18 : decode cX11_free 18 = .ok (.getfield 43, 3) := by decide +kernel
theorem dX11_free_2 : decode cX11_free 2 = .ok (.if_icmp .lt 9, 3) := by decide +kernel
theorem dX11_free_21 : decode cX11_free 21 = .ok (.iload_n 1, 1) := by decide +kernel
theorem dX11_free_22 : decode cX11_free 22 = .ok (.invokevirtual 347, 3) := by decide +kernel
theorem dX11_free_25 : decode cX11_free 25 = .ok (.ireturn, 1) := by decide +kernel
theorem dX11_free_5 : decode cX11_free 5 = .ok (.iload_n 1, 1) := by decide +kernel
theorem dX11_free_6 : decode cX11_free 6 = .ok (.bipush 60, 2) := by decide +kernel
theorem dX11_free_8 : decode cX11_free 8 = .ok (.if_icmp .le 9, 3) := by decide +kernel
theorem dX11_checkByte_0 : decode cX11_checkByte 0 = .ok (.bipush 31, 2) := by decide +kernel
theorem dX11_checkByte_10 : decode cX11_checkByte 10 = .ok (.iload_n 3, 1) := by decide +kernel
theorem dX11_checkByte_11 : decode cX11_checkByte 11 = .ok (.aload_n 0, 1) := by decide +kernel
theorem dX11_checkByte_12 : decode cX11_checkByte 12 = .ok (.arraylength, 1) := by decide +kernel
theorem dX11_checkByte_13 : decode cX11_checkByte 13 = .ok (.if_icmp .ge 21, 3) := by decide +kernel
theorem dX11_checkByte_16 : decode cX11_checkByte 16 = .ok (.iconst 5, 1) := by decide +kernel
theorem dX11_checkByte_17 : decode cX11_checkByte 17 = .ok (.iload_n 2, 1) := by decide +kernel
theorem dX11_checkByte_18 : decode cX11_checkByte 18 = .ok (.imul, 1) := by decide +kernel
theorem dX11_checkByte_19 : decode cX11_checkByte 19 = .ok (.aload_n 0, 1) := by decide +kernel
theorem dX11_checkByte_2 : decode cX11_checkByte 2 = .ok (.istore_n 2, 1) := by decide +kernel
theorem dX11_checkByte_20 : decode cX11_checkByte 20 = .ok (.iload_n 3, 1) := by decide +kernel
theorem dX11_checkByte_21 : decode cX11_checkByte 21 = .ok (.iaload, 1) := by decide +kernel
theorem dX11_checkByte_22 : decode cX11_checkByte 22 = .ok (.iadd, 1) := by decide +kernel
theorem dX11_checkByte_23 : decode cX11_checkByte 23 = .ok (.sipush 227, 3) := by decide +kernel
theorem dX11_checkByte_26 : decode cX11_checkByte 26 = .ok (.irem, 1) := by decide +kernel
theorem dX11_checkByte_27 : decode cX11_checkByte 27 = .ok (.istore_n 2, 1) := by decide +kernel
theorem dX11_checkByte_28 : decode cX11_checkByte 28 = .ok (.iinc 3 1, 3) := by decide +kernel
theorem dX11_checkByte_3 : decode cX11_checkByte 3 = .ok (.iconst 0, 1) := by decide +kernel
theorem dX11_checkByte_31 : decode cX11_checkByte 31 = .ok (.goto (-26), 3) := by decide +kernel
theorem dX11_checkByte_34 : decode cX11_checkByte 34 = .ok (.iload_n 2, 1) := by decide +kernel
theorem dX11_checkByte_35 : decode cX11_checkByte 35 = .ok (.ireturn, 1) := by decide +kernel
theorem dX11_checkByte_4 : decode cX11_checkByte 4 = .ok (.istore_n 3, 1) := by decide +kernel
theorem dX11_checkByte_5 : decode cX11_checkByte 5 = .ok (.iload_n 3, 1) := by decide +kernel
theorem dX11_checkByte_6 : decode cX11_checkByte 6 = .ok (.iload_n 1, 1) := by decide +kernel
theorem dX11_checkByte_7 : decode cX11_checkByte 7 = .ok (.if_icmp .ge 27, 3) := by decide +kernel
theorem dX11_image_0 : decode cX11_image 0 = .ok (.aload_n 0, 1) := by decide +kernel
theorem dX11_image_1 : decode cX11_image 1 = .ok (.getfield 43, 3) := by decide +kernel
theorem dX11_image_10 : decode cX11_image 10 = .ok (.getfield 143, 3) := by decide +kernel
theorem dX11_image_13 : decode cX11_image 13 = .ok (.istore_n 1, 1) := by decide +kernel
theorem dX11_image_14 : decode cX11_image 14 = .ok (.aload_n 0, 1) := by decide +kernel
theorem dX11_image_15 : decode cX11_image 15 = .ok (.getfield 80, 3) := by decide +kernel
theorem dX11_image_18 : decode cX11_image 18 = .ok (.iconst 0, 1) := by decide +kernel
theorem dX11_image_19 : decode cX11_image 19 = .ok (.iload_n 1, 1) := by decide +kernel
theorem dX11_image_20 : decode cX11_image 20 = .ok (.iastore, 1) := by decide +kernel
theorem dX11_image_21 : decode cX11_image 21 = .ok (.iconst 0, 1) := by decide +kernel
theorem dX11_image_22 : decode cX11_image 22 = .ok (.istore_n 2, 1) := by decide +kernel
theorem dX11_image_23 : decode cX11_image 23 = .ok (.iload_n 2, 1) := by decide +kernel
theorem dX11_image_24 : decode cX11_image 24 = .ok (.iload_n 1, 1) := by decide +kernel
theorem dX11_image_25 : decode cX11_image 25 = .ok (.if_icmp .ge 26, 3) := by decide +kernel
theorem dX11_image_4 : decode cX11_image 4 = .ok (.getfield 121, 3) := by decide +kernel
theorem dX11_image_51 : decode cX11_image 51 = .ok (.aload_n 0, 1) := by decide +kernel
theorem dX11_image_52 : decode cX11_image 52 = .ok (.getfield 80, 3) := by decide +kernel
theorem dX11_image_55 : decode cX11_image 55 = .ok (.iload_n 1, 1) := by decide +kernel
theorem dX11_image_56 : decode cX11_image 56 = .ok (.iconst 1, 1) := by decide +kernel
theorem dX11_image_57 : decode cX11_image 57 = .ok (.iadd, 1) := by decide +kernel
theorem dX11_image_58 : decode cX11_image 58 = .ok (.aload_n 0, 1) := by decide +kernel
theorem dX11_image_59 : decode cX11_image 59 = .ok (.getfield 80, 3) := by decide +kernel
theorem dX11_image_62 : decode cX11_image 62 = .ok (.iload_n 1, 1) := by decide +kernel
theorem dX11_image_63 : decode cX11_image 63 = .ok (.iconst 1, 1) := by decide +kernel
theorem dX11_image_64 : decode cX11_image 64 = .ok (.iadd, 1) := by decide +kernel
theorem dX11_image_65 : decode cX11_image 65 = .ok (.invokestatic 373, 3) := by decide +kernel
theorem dX11_image_68 : decode cX11_image 68 = .ok (.iastore, 1) := by decide +kernel
theorem dX11_image_69 : decode cX11_image 69 = .ok (.aload_n 0, 1) := by decide +kernel
theorem dX11_image_7 : decode cX11_image 7 = .ok (.getfield 139, 3) := by decide +kernel
theorem dX11_image_70 : decode cX11_image 70 = .ok (.iload_n 1, 1) := by decide +kernel
theorem dX11_image_71 : decode cX11_image 71 = .ok (.iconst 2, 1) := by decide +kernel
theorem dX11_image_72 : decode cX11_image 72 = .ok (.iadd, 1) := by decide +kernel
theorem dX11_image_73 : decode cX11_image 73 = .ok (.putfield 83, 3) := by decide +kernel
theorem dX11_image_76 : decode cX11_image 76 = .ok (.aload_n 0, 1) := by decide +kernel
theorem dX11_image_77 : decode cX11_image 77 = .ok (.getfield 83, 3) := by decide +kernel
theorem dX11_image_80 : decode cX11_image 80 = .ok (.ireturn, 1) := by decide +kernel
theorem dX11_isImage_0 : decode cX11_isImage 0 = .ok (.aload_n 0, 1) := by decide +kernel
theorem dX11_isImage_1 : decode cX11_isImage 1 = .ok (.getfield 43, 3) := by decide +kernel
theorem dX11_isImage_10 : decode cX11_isImage 10 = .ok (.getfield 143, 3) := by decide +kernel
theorem dX11_isImage_13 : decode cX11_isImage 13 = .ok (.istore_n 1, 1) := by decide +kernel
theorem dX11_isImage_14 : decode cX11_isImage 14 = .ok (.aload_n 0, 1) := by decide +kernel
theorem dX11_isImage_15 : decode cX11_isImage 15 = .ok (.getfield 13, 3) := by decide +kernel
theorem dX11_isImage_18 : decode cX11_isImage 18 = .ok (.iload_n 1, 1) := by decide +kernel
theorem dX11_isImage_19 : decode cX11_isImage 19 = .ok (.iconst 2, 1) := by decide +kernel
theorem dX11_isImage_20 : decode cX11_isImage 20 = .ok (.iadd, 1) := by decide +kernel
theorem dX11_isImage_21 : decode cX11_isImage 21 = .ok (.if_icmp .ne 21, 3) := by decide +kernel
theorem dX11_isImage_4 : decode cX11_isImage 4 = .ok (.getfield 121, 3) := by decide +kernel
theorem dX11_isImage_42 : decode cX11_isImage 42 = .ok (.iconst 0, 1) := by decide +kernel
theorem dX11_isImage_43 : decode cX11_isImage 43 = .ok (.ireturn, 1) := by decide +kernel
theorem dX11_isImage_7 : decode cX11_isImage 7 = .ok (.getfield 139, 3) := by decide +kernel
theorem dX11_on_0 : decode cX11_on 0 = .ok (.aload_n 0, 1) := by decide +kernel
theorem dX11_on_1 : decode cX11_on 1 = .ok (.invokevirtual 377, 3) := by decide +kernel
theorem dX11_on_17 : decode cX11_on 17 = .ok (.aload_n 0, 1) := by decide +kernel
theorem dX11_on_18 : decode cX11_on 18 = .ok (.iconst 5, 1) := by decide +kernel
theorem dX11_on_19 : decode cX11_on 19 = .ok (.invokevirtual 89, 3) := by decide +kernel
theorem dX11_on_22 : decode cX11_on 22 = .ok (.pop, 1) := by decide +kernel
theorem dX11_on_23 : decode cX11_on 23 = .ok (.aload_n 0, 1) := by decide +kernel
theorem dX11_on_24 : decode cX11_on 24 = .ok (.iconst 0, 1) := by decide +kernel
theorem dX11_on_25 : decode cX11_on 25 = .ok (.putfield 13, 3) := by decide +kernel
theorem dX11_on_28 : decode cX11_on 28 = .ok (.iload_n 1, 1) := by decide +kernel
theorem dX11_on_29 : decode cX11_on 29 = .ok (.ireturn, 1) := by decide +kernel
theorem dX11_on_4 : decode cX11_on 4 = .ok (.istore_n 1, 1) := by decide +kernel
theorem dX11_on_5 : decode cX11_on 5 = .ok (.iload_n 1, 1) := by decide +kernel
theorem dX11_on_6 : decode cX11_on 6 = .ok (.ifCond .eq 11, 3) := by decide +kernel
theorem dX1_clear_0 : decode cX1_clear 0 = .ok (.aload_n 0, 1) := by decide +kernel
theorem dX1_clear_1 : decode cX1_clear 1 = .ok (.iconst 0, 1) := by decide +kernel
theorem dX1_clear_10 : decode cX1_clear 10 = .ok (.aload_n 0, 1) := by decide +kernel
theorem dX1_clear_11 : decode cX1_clear 11 = .ok (.iconst 0, 1) := by decide +kernel
theorem dX1_clear_12 : decode cX1_clear 12 = .ok (.putfield 18, 3) := by decide +kernel
theorem dX1_clear_15 : decode cX1_clear 15 = .ok (.return_, 1) := by decide +kernel
theorem dX1_clear_2 : decode cX1_clear 2 = .ok (.putfield 9, 3) := by decide +kernel
theorem dX1_clear_5 : decode cX1_clear 5 = .ok (.aload_n 0, 1) := by decide +kernel
theorem dX1_clear_6 : decode cX1_clear 6 = .ok (.iconst 0, 1) := by decide +kernel
theorem dX1_clear_7 : decode cX1_clear 7 = .ok (.putfield 15, 3) := by decide +kernel
theorem dX7_clear_0 : decode cX7_clear 0 = .ok (.aload_n 0, 1) := by decide +kernel
theorem dX7_clear_1 : decode cX7_clear 1 = .ok (.iconst 0, 1) := by decide +kernel
theorem dX7_clear_10 : decode cX7_clear 10 = .ok (.return_, 1) := by decide +kernel
theorem dX7_clear_2 : decode cX7_clear 2 = .ok (.putfield 9, 3) := by decide +kernel
theorem dX7_clear_5 : decode cX7_clear 5 = .ok (.aload_n 0, 1) := by decide +kernel
theorem dX7_clear_6 : decode cX7_clear 6 = .ok (.iconst 0, 1) := by decide +kernel
theorem dX7_clear_7 : decode cX7_clear 7 = .ok (.putfield 15, 3) := by decide +kernel
theorem dX2_clear_0 : decode cX2_clear 0 = .ok (.aload_n 0, 1) := by decide +kernel
theorem dX2_clear_1 : decode cX2_clear 1 = .ok (.getfield 12, 3) := by decide +kernel
theorem dX2_clear_11 : decode cX2_clear 11 = .ok (.iconst 0, 1) := by decide +kernel
theorem dX2_clear_12 : decode cX2_clear 12 = .ok (.putfield 71, 3) := by decide +kernel
theorem dX2_clear_15 : decode cX2_clear 15 = .ok (.aload_n 0, 1) := by decide +kernel
theorem dX2_clear_16 : decode cX2_clear 16 = .ok (.getfield 28, 3) := by decide +kernel
theorem dX2_clear_19 : decode cX2_clear 19 = .ok (.invokevirtual 74, 3) := by decide +kernel
theorem dX2_clear_22 : decode cX2_clear 22 = .ok (.aload_n 0, 1) := by decide +kernel
theorem dX2_clear_23 : decode cX2_clear 23 = .ok (.iconst 0, 1) := by decide +kernel
theorem dX2_clear_24 : decode cX2_clear 24 = .ok (.putfield 32, 3) := by decide +kernel
theorem dX2_clear_27 : decode cX2_clear 27 = .ok (.aload_n 0, 1) := by decide +kernel
theorem dX2_clear_28 : decode cX2_clear 28 = .ok (.iconst 0, 1) := by decide +kernel
theorem dX2_clear_29 : decode cX2_clear 29 = .ok (.putfield 47, 3) := by decide +kernel
theorem dX2_clear_32 : decode cX2_clear 32 = .ok (.aload_n 0, 1) := by decide +kernel
theorem dX2_clear_33 : decode cX2_clear 33 = .ok (.bipush 50, 2) := by decide +kernel
theorem dX2_clear_35 : decode cX2_clear 35 = .ok (.putfield 65, 3) := by decide +kernel
theorem dX2_clear_38 : decode cX2_clear 38 = .ok (.iconst 0, 1) := by decide +kernel
theorem dX2_clear_39 : decode cX2_clear 39 = .ok (.istore_n 1, 1) := by decide +kernel
theorem dX2_clear_4 : decode cX2_clear 4 = .ok (.invokevirtual 68, 3) := by decide +kernel
theorem dX2_clear_40 : decode cX2_clear 40 = .ok (.iload_n 1, 1) := by decide +kernel
theorem dX2_clear_41 : decode cX2_clear 41 = .ok (.iconst 5, 1) := by decide +kernel
theorem dX2_clear_42 : decode cX2_clear 42 = .ok (.if_icmp .ge 23, 3) := by decide +kernel
theorem dX2_clear_45 : decode cX2_clear 45 = .ok (.aload_n 0, 1) := by decide +kernel
theorem dX2_clear_46 : decode cX2_clear 46 = .ok (.getfield 59, 3) := by decide +kernel
theorem dX2_clear_49 : decode cX2_clear 49 = .ok (.iload_n 1, 1) := by decide +kernel
theorem dX2_clear_50 : decode cX2_clear 50 = .ok (.iconst 0, 1) := by decide +kernel
theorem dX2_clear_51 : decode cX2_clear 51 = .ok (.iastore, 1) := by decide +kernel
theorem dX2_clear_52 : decode cX2_clear 52 = .ok (.aload_n 0, 1) := by decide +kernel
theorem dX2_clear_53 : decode cX2_clear 53 = .ok (.getfield 62, 3) := by decide +kernel
theorem dX2_clear_56 : decode cX2_clear 56 = .ok (.iload_n 1, 1) := by decide +kernel
theorem dX2_clear_57 : decode cX2_clear 57 = .ok (.iconst 0, 1) := by decide +kernel
theorem dX2_clear_58 : decode cX2_clear 58 = .ok (.iastore, 1) := by decide +kernel
theorem dX2_clear_59 : decode cX2_clear 59 = .ok (.iinc 1 1, 3) := by decide +kernel
theorem dX2_clear_62 : decode cX2_clear 62 = .ok (.goto (-22), 3) := by decide +kernel
theorem dX2_clear_65 : decode cX2_clear 65 = .ok (.return_, 1) := by decide +kernel
theorem dX2_clear_7 : decode cX2_clear 7 = .ok (.aload_n 0, 1) := by decide +kernel
theorem dX2_clear_8 : decode cX2_clear 8 = .ok (.getfield 21, 3) := by decide +kernel
theorem dX3_listSuiting_0 : decode cX3_listSuiting 0 = .ok (.iconst 0, 1) := by decide +kernel
theorem dX3_listSuiting_1 : decode cX3_listSuiting 1 = .ok (.istore_n 1, 1) := by decide +kernel
theorem dX3_listSuiting_2 : decode cX3_listSuiting 2 = .ok (.iload_n 1, 1) := by decide +kernel
theorem dX3_listSuiting_3 : decode cX3_listSuiting 3 = .ok (.aload_n 0, 1) := by decide +kernel
theorem dX3_listSuiting_4 : decode cX3_listSuiting 4 = .ok (.getfield 9, 3) := by decide +kernel
theorem dX3_listSuiting_69 : decode cX3_listSuiting 69 = .ok (.return_, 1) := by decide +kernel
theorem dX3_listSuiting_7 : decode cX3_listSuiting 7 = .ok (.if_icmp .ge 62, 3) := by decide +kernel
theorem dX2_finish_0 : decode cX2_finish 0 = .ok (.aload_n 0, 1) := by decide +kernel
theorem dX2_finish_1 : decode cX2_finish 1 = .ok (.getfield 21, 3) := by decide +kernel
theorem dX2_finish_10 : decode cX2_finish 10 = .ok (.bipush 6, 2) := by decide +kernel
theorem dX2_finish_12 : decode cX2_finish 12 = .ok (.if_icmp .ge 16, 3) := by decide +kernel
theorem dX2_finish_15 : decode cX2_finish 15 = .ok (.aload_n 0, 1) := by decide +kernel
theorem dX2_finish_16 : decode cX2_finish 16 = .ok (.getfield 44, 3) := by decide +kernel
theorem dX2_finish_19 : decode cX2_finish 19 = .ok (.iload_n 1, 1) := by decide +kernel
theorem dX2_finish_20 : decode cX2_finish 20 = .ok (.iconst (-1), 1) := by decide +kernel
theorem dX2_finish_21 : decode cX2_finish 21 = .ok (.iastore, 1) := by decide +kernel
theorem dX2_finish_22 : decode cX2_finish 22 = .ok (.iinc 1 1, 3) := by decide +kernel
theorem dX2_finish_25 : decode cX2_finish 25 = .ok (.goto (-16), 3) := by decide +kernel
theorem dX2_finish_28 : decode cX2_finish 28 = .ok (.iconst 0, 1) := by decide +kernel
theorem dX2_finish_29 : decode cX2_finish 29 = .ok (.istore_n 1, 1) := by decide +kernel
theorem dX2_finish_30 : decode cX2_finish 30 = .ok (.iload_n 1, 1) := by decide +kernel
theorem dX2_finish_31 : decode cX2_finish 31 = .ok (.aload_n 0, 1) := by decide +kernel
theorem dX2_finish_32 : decode cX2_finish 32 = .ok (.getfield 21, 3) := by decide +kernel
theorem dX2_finish_35 : decode cX2_finish 35 = .ok (.getfield 71, 3) := by decide +kernel
theorem dX2_finish_38 : decode cX2_finish 38 = .ok (.if_icmp .ge 24, 3) := by decide +kernel
theorem dX2_finish_4 : decode cX2_finish 4 = .ok (.invokevirtual 75, 3) := by decide +kernel
theorem dX2_finish_62 : decode cX2_finish 62 = .ok (.return_, 1) := by decide +kernel
theorem dX2_finish_7 : decode cX2_finish 7 = .ok (.iconst 0, 1) := by decide +kernel
theorem dX2_finish_8 : decode cX2_finish 8 = .ok (.istore_n 1, 1) := by decide +kernel
theorem dX2_finish_9 : decode cX2_finish 9 = .ok (.iload_n 1, 1) := by decide +kernel
theorem dX4_begin_0 : decode cX4_begin 0 = .ok (.aload_n 0, 1) := by decide +kernel
theorem dX4_begin_1 : decode cX4_begin 1 = .ok (.aload_n 1, 1) := by decide +kernel
theorem dX4_begin_10 : decode cX4_begin 10 = .ok (.invokestatic 33, 3) := by decide +kernel
theorem dX4_begin_13 : decode cX4_begin 13 = .ok (.aload_n 0, 1) := by decide +kernel
theorem dX4_begin_14 : decode cX4_begin 14 = .ok (.getfield 25, 3) := by decide +kernel
theorem dX4_begin_17 : decode cX4_begin 17 = .ok (.ldc 32, 2) := by decide +kernel
theorem dX4_begin_19 : decode cX4_begin 19 = .ok (.invokestatic 33, 3) := by decide +kernel
theorem dX4_begin_2 : decode cX4_begin 2 = .ok (.putfield 28, 3) := by decide +kernel
theorem dX4_begin_22 : decode cX4_begin 22 = .ok (.return_, 1) := by decide +kernel
theorem dX4_begin_5 : decode cX4_begin 5 = .ok (.aload_n 0, 1) := by decide +kernel
theorem dX4_begin_6 : decode cX4_begin 6 = .ok (.getfield 9, 3) := by decide +kernel
theorem dX4_begin_9 : decode cX4_begin 9 = .ok (.iconst 0, 1) := by decide +kernel
theorem dX5_isFailed_0 : decode cX5_isFailed 0 = .ok (.aload_n 0, 1) := by decide +kernel
theorem dX5_isFailed_1 : decode cX5_isFailed 1 = .ok (.getfield 30, 3) := by decide +kernel
theorem dX5_isFailed_11 : decode cX5_isFailed 11 = .ok (.iconst 0, 1) := by decide +kernel
theorem dX5_isFailed_12 : decode cX5_isFailed 12 = .ok (.ireturn, 1) := by decide +kernel
theorem dX5_isFailed_4 : decode cX5_isFailed 4 = .ok (.ifCond .eq 7, 3) := by decide +kernel
theorem dX5_isOver_0 : decode cX5_isOver 0 = .ok (.aload_n 0, 1) := by decide +kernel
theorem dX5_isOver_1 : decode cX5_isOver 1 = .ok (.getfield 21, 3) := by decide +kernel
theorem dX5_isOver_12 : decode cX5_isOver 12 = .ok (.ireturn, 1) := by decide +kernel
theorem dX5_isOver_4 : decode cX5_isOver 4 = .ok (.ifCond .ne 7, 3) := by decide +kernel
theorem dX5_isOver_7 : decode cX5_isOver 7 = .ok (.iconst 1, 1) := by decide +kernel
theorem dX5_isOver_8 : decode cX5_isOver 8 = .ok (.goto 4, 3) := by decide +kernel
theorem dX5_take_0 : decode cX5_take 0 = .ok (.aload_n 0, 1) := by decide +kernel
theorem dX5_take_1 : decode cX5_take 1 = .ok (.invokevirtual 85, 3) := by decide +kernel
theorem dX5_take_100 : decode cX5_take 100 = .ok (.if_icmp .lt 4, 3) := by decide +kernel
theorem dX5_take_103 : decode cX5_take 103 = .ok (.return_, 1) := by decide +kernel
theorem dX5_take_12 : decode cX5_take 12 = .ok (.iconst 1, 1) := by decide +kernel
theorem dX5_take_13 : decode cX5_take 13 = .ok (.if_icmp .eq 11, 3) := by decide +kernel
theorem dX5_take_16 : decode cX5_take 16 = .ok (.aload_n 0, 1) := by decide +kernel
theorem dX5_take_17 : decode cX5_take 17 = .ok (.getfield 21, 3) := by decide +kernel
theorem dX5_take_20 : decode cX5_take 20 = .ok (.iconst 2, 1) := by decide +kernel
theorem dX5_take_21 : decode cX5_take 21 = .ok (.if_icmp .ne 7, 3) := by decide +kernel
theorem dX5_take_28 : decode cX5_take 28 = .ok (.iconst 0, 1) := by decide +kernel
theorem dX5_take_29 : decode cX5_take 29 = .ok (.istore_n 1, 1) := by decide +kernel
theorem dX5_take_30 : decode cX5_take 30 = .ok (.aload_n 0, 1) := by decide +kernel
theorem dX5_take_31 : decode cX5_take 31 = .ok (.getfield 15, 3) := by decide +kernel
theorem dX5_take_34 : decode cX5_take 34 = .ok (.istore_n 2, 1) := by decide +kernel
theorem dX5_take_35 : decode cX5_take 35 = .ok (.aload_n 0, 1) := by decide +kernel
theorem dX5_take_36 : decode cX5_take 36 = .ok (.getfield 15, 3) := by decide +kernel
theorem dX5_take_39 : decode cX5_take 39 = .ok (.aload_n 0, 1) := by decide +kernel
theorem dX5_take_4 : decode cX5_take 4 = .ok (.ifCond .eq 4, 3) := by decide +kernel
theorem dX5_take_40 : decode cX5_take 40 = .ok (.getfield 9, 3) := by decide +kernel
theorem dX5_take_43 : decode cX5_take 43 = .ok (.if_icmp .ge 31, 3) := by decide +kernel
theorem dX5_take_74 : decode cX5_take 74 = .ok (.aload_n 0, 1) := by decide +kernel
theorem dX5_take_75 : decode cX5_take 75 = .ok (.aload_n 0, 1) := by decide +kernel
theorem dX5_take_76 : decode cX5_take 76 = .ok (.getfield 15, 3) := by decide +kernel
theorem dX5_take_79 : decode cX5_take 79 = .ok (.putfield 18, 3) := by decide +kernel
theorem dX5_take_8 : decode cX5_take 8 = .ok (.aload_n 0, 1) := by decide +kernel
theorem dX5_take_82 : decode cX5_take 82 = .ok (.aload_n 0, 1) := by decide +kernel
theorem dX5_take_83 : decode cX5_take 83 = .ok (.iconst 0, 1) := by decide +kernel
theorem dX5_take_84 : decode cX5_take 84 = .ok (.putfield 21, 3) := by decide +kernel
theorem dX5_take_87 : decode cX5_take 87 = .ok (.aload_n 0, 1) := by decide +kernel
theorem dX5_take_88 : decode cX5_take 88 = .ok (.iconst (-1), 1) := by decide +kernel
theorem dX5_take_89 : decode cX5_take 89 = .ok (.putfield 27, 3) := by decide +kernel
theorem dX5_take_9 : decode cX5_take 9 = .ok (.getfield 21, 3) := by decide +kernel
theorem dX5_take_92 : decode cX5_take 92 = .ok (.aload_n 0, 1) := by decide +kernel
theorem dX5_take_93 : decode cX5_take 93 = .ok (.getfield 15, 3) := by decide +kernel
theorem dX5_take_96 : decode cX5_take 96 = .ok (.aload_n 0, 1) := by decide +kernel
theorem dX5_take_97 : decode cX5_take 97 = .ok (.getfield 9, 3) := by decide +kernel
theorem dX5_begin_0 : decode cX5_begin 0 = .ok (.aload_n 0, 1) := by decide +kernel
theorem dX5_begin_1 : decode cX5_begin 1 = .ok (.iconst 0, 1) := by decide +kernel
theorem dX5_begin_11 : decode cX5_begin 11 = .ok (.invokestatic 67, 3) := by decide +kernel
theorem dX5_begin_14 : decode cX5_begin 14 = .ok (.putfield 9, 3) := by decide +kernel
theorem dX5_begin_17 : decode cX5_begin 17 = .ok (.aload_n 0, 1) := by decide +kernel
theorem dX5_begin_18 : decode cX5_begin 18 = .ok (.iconst 0, 1) := by decide +kernel
theorem dX5_begin_19 : decode cX5_begin 19 = .ok (.putfield 15, 3) := by decide +kernel
theorem dX5_begin_2 : decode cX5_begin 2 = .ok (.iload_n 1, 1) := by decide +kernel
theorem dX5_begin_22 : decode cX5_begin 22 = .ok (.aload_n 0, 1) := by decide +kernel
theorem dX5_begin_23 : decode cX5_begin 23 = .ok (.iconst 0, 1) := by decide +kernel
theorem dX5_begin_24 : decode cX5_begin 24 = .ok (.putfield 21, 3) := by decide +kernel
theorem dX5_begin_27 : decode cX5_begin 27 = .ok (.aload_n 0, 1) := by decide +kernel
theorem dX5_begin_28 : decode cX5_begin 28 = .ok (.iconst 0, 1) := by decide +kernel
theorem dX5_begin_29 : decode cX5_begin 29 = .ok (.putfield 30, 3) := by decide +kernel
theorem dX5_begin_3 : decode cX5_begin 3 = .ok (.aload_n 0, 1) := by decide +kernel
theorem dX5_begin_32 : decode cX5_begin 32 = .ok (.aload_n 0, 1) := by decide +kernel
theorem dX5_begin_33 : decode cX5_begin 33 = .ok (.iconst (-1), 1) := by decide +kernel
theorem dX5_begin_34 : decode cX5_begin 34 = .ok (.putfield 33, 3) := by decide +kernel
theorem dX5_begin_37 : decode cX5_begin 37 = .ok (.aload_n 0, 1) := by decide +kernel
theorem dX5_begin_38 : decode cX5_begin 38 = .ok (.invokevirtual 70, 3) := by decide +kernel
theorem dX5_begin_4 : decode cX5_begin 4 = .ok (.getfield 40, 3) := by decide +kernel
theorem dX5_begin_41 : decode cX5_begin 41 = .ok (.return_, 1) := by decide +kernel
theorem dX5_begin_7 : decode cX5_begin 7 = .ok (.arraylength, 1) := by decide +kernel
theorem dX5_begin_8 : decode cX5_begin 8 = .ok (.invokestatic 62, 3) := by decide +kernel
theorem dX10_begin_0 : decode cX10_begin 0 = .ok (.aload_n 0, 1) := by decide +kernel
theorem dX10_begin_1 : decode cX10_begin 1 = .ok (.aload_n 1, 1) := by decide +kernel
theorem dX10_begin_12 : decode cX10_begin 12 = .ok (.aload_n 0, 1) := by decide +kernel
theorem dX10_begin_13 : decode cX10_begin 13 = .ok (.iconst 0, 1) := by decide +kernel
theorem dX10_begin_14 : decode cX10_begin 14 = .ok (.putfield 9, 3) := by decide +kernel
theorem dX10_begin_17 : decode cX10_begin 17 = .ok (.aload_n 0, 1) := by decide +kernel
theorem dX10_begin_18 : decode cX10_begin 18 = .ok (.getfield 15, 3) := by decide +kernel
theorem dX10_begin_2 : decode cX10_begin 2 = .ok (.putfield 19, 3) := by decide +kernel
theorem dX10_begin_21 : decode cX10_begin 21 = .ok (.iload_n 2, 1) := by decide +kernel
theorem dX10_begin_22 : decode cX10_begin 22 = .ok (.invokevirtual 41, 3) := by decide +kernel
theorem dX10_begin_25 : decode cX10_begin 25 = .ok (.return_, 1) := by decide +kernel
theorem dX10_begin_5 : decode cX10_begin 5 = .ok (.aload_n 0, 1) := by decide +kernel
theorem dX10_begin_6 : decode cX10_begin 6 = .ok (.getfield 19, 3) := by decide +kernel
theorem dX10_begin_9 : decode cX10_begin 9 = .ok (.invokevirtual 38, 3) := by decide +kernel
theorem dX11_house_0 : decode cX11_house 0 = .ok (.aload_n 0, 1) := by decide +kernel
theorem dX11_house_1 : decode cX11_house 1 = .ok (.getfield 34, 3) := by decide +kernel
theorem dX11_house_100 : decode cX11_house 100 = .ok (.invokevirtual 118, 3) := by decide +kernel
theorem dX11_house_103 : decode cX11_house 103 = .ok (.aload_n 0, 1) := by decide +kernel
theorem dX11_house_104 : decode cX11_house 104 = .ok (.getfield 20, 3) := by decide +kernel
theorem dX11_house_107 : decode cX11_house 107 = .ok (.astore_n 1, 1) := by decide +kernel
theorem dX11_house_108 : decode cX11_house 108 = .ok (.aload_n 0, 1) := by decide +kernel
theorem dX11_house_109 : decode cX11_house 109 = .ok (.aload_n 0, 1) := by decide +kernel
theorem dX11_house_110 : decode cX11_house 110 = .ok (.getfield 43, 3) := by decide +kernel
theorem dX11_house_113 : decode cX11_house 113 = .ok (.getfield 121, 3) := by decide +kernel
theorem dX11_house_116 : decode cX11_house 116 = .ok (.putfield 20, 3) := by decide +kernel
theorem dX11_house_119 : decode cX11_house 119 = .ok (.aload_n 0, 1) := by decide +kernel
theorem dX11_house_12 : decode cX11_house 12 = .ok (.invokevirtual 97, 3) := by decide +kernel
theorem dX11_house_120 : decode cX11_house 120 = .ok (.getfield 43, 3) := by decide +kernel
theorem dX11_house_123 : decode cX11_house 123 = .ok (.aload_n 1, 1) := by decide +kernel
theorem dX11_house_124 : decode cX11_house 124 = .ok (.invokevirtual 124, 3) := by decide +kernel
theorem dX11_house_127 : decode cX11_house 127 = .ok (.aload_n 0, 1) := by decide +kernel
theorem dX11_house_128 : decode cX11_house 128 = .ok (.getfield 34, 3) := by decide +kernel
theorem dX11_house_131 : decode cX11_house 131 = .ok (.getfield 126, 3) := by decide +kernel
theorem dX11_house_134 : decode cX11_house 134 = .ok (.ireturn, 1) := by decide +kernel
theorem dX11_house_15 : decode cX11_house 15 = .ok (.aload_n 0, 1) := by decide +kernel
theorem dX11_house_16 : decode cX11_house 16 = .ok (.iconst 0, 1) := by decide +kernel
theorem dX11_house_17 : decode cX11_house 17 = .ok (.putfield 13, 3) := by decide +kernel
theorem dX11_house_20 : decode cX11_house 20 = .ok (.iconst 0, 1) := by decide +kernel
theorem dX11_house_21 : decode cX11_house 21 = .ok (.istore_n 1, 1) := by decide +kernel
theorem dX11_house_22 : decode cX11_house 22 = .ok (.iload_n 1, 1) := by decide +kernel
theorem dX11_house_23 : decode cX11_house 23 = .ok (.sipush 1800, 3) := by decide +kernel
theorem dX11_house_26 : decode cX11_house 26 = .ok (.if_icmp .ge 29, 3) := by decide +kernel
theorem dX11_house_29 : decode cX11_house 29 = .ok (.aload_n 0, 1) := by decide +kernel
theorem dX11_house_30 : decode cX11_house 30 = .ok (.getfield 34, 3) := by decide +kernel
theorem dX11_house_33 : decode cX11_house 33 = .ok (.getfield 101, 3) := by decide +kernel
theorem dX11_house_36 : decode cX11_house 36 = .ok (.invokevirtual 105, 3) := by decide +kernel
theorem dX11_house_39 : decode cX11_house 39 = .ok (.ifCond .ne 16, 3) := by decide +kernel
theorem dX11_house_4 : decode cX11_house 4 = .ok (.aload_n 0, 1) := by decide +kernel
theorem dX11_house_5 : decode cX11_house 5 = .ok (.getfield 20, 3) := by decide +kernel
theorem dX11_house_55 : decode cX11_house 55 = .ok (.aload_n 0, 1) := by decide +kernel
theorem dX11_house_56 : decode cX11_house 56 = .ok (.aload_n 0, 1) := by decide +kernel
theorem dX11_house_57 : decode cX11_house 57 = .ok (.getfield 34, 3) := by decide +kernel
theorem dX11_house_60 : decode cX11_house 60 = .ok (.getfield 101, 3) := by decide +kernel
theorem dX11_house_63 : decode cX11_house 63 = .ok (.getfield 112, 3) := by decide +kernel
theorem dX11_house_66 : decode cX11_house 66 = .ok (.putfield 70, 3) := by decide +kernel
theorem dX11_house_69 : decode cX11_house 69 = .ok (.aload_n 0, 1) := by decide +kernel
theorem dX11_house_70 : decode cX11_house 70 = .ok (.aload_n 0, 1) := by decide +kernel
theorem dX11_house_71 : decode cX11_house 71 = .ok (.getfield 34, 3) := by decide +kernel
theorem dX11_house_74 : decode cX11_house 74 = .ok (.getfield 101, 3) := by decide +kernel
theorem dX11_house_77 : decode cX11_house 77 = .ok (.getfield 115, 3) := by decide +kernel
theorem dX11_house_8 : decode cX11_house 8 = .ok (.aload_n 0, 1) := by decide +kernel
theorem dX11_house_80 : decode cX11_house 80 = .ok (.putfield 73, 3) := by decide +kernel
theorem dX11_house_83 : decode cX11_house 83 = .ok (.aload_n 0, 1) := by decide +kernel
theorem dX11_house_84 : decode cX11_house 84 = .ok (.getfield 70, 3) := by decide +kernel
theorem dX11_house_87 : decode cX11_house 87 = .ok (.ifCond .eq 9, 3) := by decide +kernel
theorem dX11_house_9 : decode cX11_house 9 = .ok (.getfield 13, 3) := by decide +kernel
theorem dX11_house_96 : decode cX11_house 96 = .ok (.aload_n 0, 1) := by decide +kernel
theorem dX11_house_97 : decode cX11_house 97 = .ok (.getfield 20, 3) := by decide +kernel
end
section
set_option maxHeartbeats 4000000 in
set_option maxRecDepth 100000 in
theorem k_X11_addBytes_0 (l : Launch) (G : Gx) (x : Nat) (a : Int32) (x_0 : Nat) (sp : Nat) (stm : Nat) (pl : Nat) (sk : Nat) (se : Nat) (ch : Nat) (x_11 : Nat) (x_13 : Nat) (f : Nat → Int32)  : CtV (S := Nat → Int32) l yX11_addBytes cX11_addBytes 3 none (rmD 1 0 0) G [.ref x, .int a] [(x, .inr (11, [.ref x_0, .int 0, .ref sp, .ref stm, .ref pl, .ref sk, .ref se, .ref ch, .int 0, .int (-1), .long 1, .ref x_11, .int 0, .ref x_13])), (x_0, .inl (G.2.1, 1800, .inl f))] (fun _ => True) (fun u => [(x, .inr (11, [.ref x_0, .int 4, .ref sp, .ref stm, .ref pl, .ref sk, .ref se, .ref ch, .int 0, .int (-1), .long 1, .ref x_11, .int 0, .ref x_13])), (x_0, .inl (G.2.1, 1800, .inl u))]) := by
  refine ctV_of (own := RX11) (by decide +kernel) rfl (Nat.le_of_ble_eq_true rfl) ?_
  intro p e s m below meth c A ls F hr hlk hnm hK hP hD hA hS hl
  have hx := F.1
  have hb := F.2.1
  have hown := F.2.2.2.1
  have hl : lv_has ls 3 [(0, .ref x), (1, .int a)] := hl
  refine lv_bipush (v := 24) hx hb dX11_addBytes_0 (by decide) ?_
  refine lv_istore_n (lv' := [(2, .int 24), (0, .ref x), (1, .int a)]) hx hb dX11_addBytes_2 rfl hl (by decide) rfl (fun ls hl => ?_)
  refine lv_iload_n hx hb dX11_addBytes_3 rfl (lv_at hl 0 rfl) ?_
  refine lv_if_lt (tgt := 51) hx hb dX11_addBytes_4 (by decide) (fun h_ => absurd h_ (by decide +kernel)) (fun _ => ?_)
  refine lv_aload_n hx hb dX11_addBytes_7 rfl (lv_at hl 1 rfl) ?_
  refine g_get F hK hP 0 rfl clX11 1 (by decide) flX11_13 rfl dX11_addBytes_8 ?_
  refine lv_aload_n hx hb dX11_addBytes_11 rfl (lv_at hl 1 rfl) ?_
  refine g_get F hK hP 0 rfl clX11 0 (by decide) flX11_9 rfl dX11_addBytes_12 ?_
  refine g_ialen (v := 1800) F hK hP 1 rfl rfl dX11_addBytes_15 ?_
  refine lv_icmp_ge (tgt := 51) hx hb dX11_addBytes_16 (by decide) (fun h_ => absurd h_ (by decide +kernel)) (fun _ => ?_)
  refine lv_aload_n hx hb dX11_addBytes_19 rfl (lv_at hl 1 rfl) ?_
  refine g_get F hK hP 0 rfl clX11 0 (by decide) flX11_9 rfl dX11_addBytes_20 ?_
  refine lv_aload_n hx hb dX11_addBytes_23 rfl (lv_at hl 1 rfl) ?_
  refine g_get F hK hP 0 rfl clX11 1 (by decide) flX11_13 rfl dX11_addBytes_24 ?_
  refine lv_iload_n hx hb dX11_addBytes_27 rfl (lv_at hl 2 rfl) ?_
  refine lv_iload_n hx hb dX11_addBytes_28 rfl (lv_at hl 0 rfl) ?_
  refine lv_ishr hx hb dX11_addBytes_29 ?_
  refine lv_topi (fun x1 ex1 => ?_)
  refine lv_sipush (v := 255) hx hb dX11_addBytes_30 (by decide) ?_
  refine lv_iand hx hb dX11_addBytes_33 ?_
  refine lv_topi (fun x2 ex2 => ?_)
  refine g_iast F hK hP hD hS 1 rfl (vin (by decide +kernel)) dX11_addBytes_34 (fun f_ => [(x, .inr (11, [.ref x_0, .int 0, .ref sp, .ref stm, .ref pl, .ref sk, .ref se, .ref ch, .int 0, .int (-1), .long 1, .ref x_11, .int 0, .ref x_13])), (x_0, .inl (G.2.1, 1800, .inl f_))]) (fun _ => rfl) (fun f3 H locs ef3 (hP : va_P G.1 vwCl [(x, .inr (11, [.ref x_0, .int 0, .ref sp, .ref stm, .ref pl, .ref sk, .ref se, .ref ch, .int 0, .int (-1), .long 1, .ref x_11, .int 0, .ref x_13])), (x_0, .inl (G.2.1, 1800, .inl f3))] H) (hD : va_D A [(x, .inr (11, [.ref x_0, .int 0, .ref sp, .ref stm, .ref pl, .ref sk, .ref se, .ref ch, .int 0, .int (-1), .long 1, .ref x_11, .int 0, .ref x_13])), (x_0, .inl (G.2.1, 1800, .inl f3))]) hS => ?_)
  refine lv_aload_n hx hb dX11_addBytes_35 rfl (lv_at hl 1 rfl) ?_
  refine lv_dup hx hb dX11_addBytes_36 rfl ?_
  refine g_get F hK hP 0 rfl clX11 1 (by decide) flX11_13 rfl dX11_addBytes_37 ?_
  refine lv_iconst (v := 1) hx hb dX11_addBytes_40 (by decide) ?_
  refine lv_iadd hx hb dX11_addBytes_41 ?_
  refine cst_i (y := 1) (by decide +kernel) ?_
  refine g_put (w' := [(x, .inr (11, [.ref x_0, .int 1, .ref sp, .ref stm, .ref pl, .ref sk, .ref se, .ref ch, .int 0, .int (-1), .long 1, .ref x_11, .int 0, .ref x_13])), (x_0, .inl (G.2.1, 1800, .inl f3))]) F hK hP hD hS 0 rfl clX11 1 (by decide) flX11_13 rfl rfl rfl (Nat.le_of_ble_eq_true rfl) dX11_addBytes_42 rfl (fun H locs hP hD hS => ?_)
  refine lv_iinc (v := 16) (lv' := [(2, .int 16), (0, .ref x), (1, .int a)]) hx hb dX11_addBytes_45 hl (k := 0) rfl (by decide +kernel) (by decide) rfl (fun ls hl => ?_)
  refine lv_goto (tgt := 3) hx hb dX11_addBytes_48 (by decide) ?_
  refine lv_iload_n hx hb dX11_addBytes_3 rfl (lv_at hl 0 rfl) ?_
  refine lv_if_lt (tgt := 51) hx hb dX11_addBytes_4 (by decide) (fun h_ => absurd h_ (by decide +kernel)) (fun _ => ?_)
  refine lv_aload_n hx hb dX11_addBytes_7 rfl (lv_at hl 1 rfl) ?_
  refine g_get F hK hP 0 rfl clX11 1 (by decide) flX11_13 rfl dX11_addBytes_8 ?_
  refine lv_aload_n hx hb dX11_addBytes_11 rfl (lv_at hl 1 rfl) ?_
  refine g_get F hK hP 0 rfl clX11 0 (by decide) flX11_9 rfl dX11_addBytes_12 ?_
  refine g_ialen (v := 1800) F hK hP 1 rfl rfl dX11_addBytes_15 ?_
  refine lv_icmp_ge (tgt := 51) hx hb dX11_addBytes_16 (by decide) (fun h_ => absurd h_ (by decide +kernel)) (fun _ => ?_)
  refine lv_aload_n hx hb dX11_addBytes_19 rfl (lv_at hl 1 rfl) ?_
  refine g_get F hK hP 0 rfl clX11 0 (by decide) flX11_9 rfl dX11_addBytes_20 ?_
  refine lv_aload_n hx hb dX11_addBytes_23 rfl (lv_at hl 1 rfl) ?_
  refine g_get F hK hP 0 rfl clX11 1 (by decide) flX11_13 rfl dX11_addBytes_24 ?_
  refine lv_iload_n hx hb dX11_addBytes_27 rfl (lv_at hl 2 rfl) ?_
  refine lv_iload_n hx hb dX11_addBytes_28 rfl (lv_at hl 0 rfl) ?_
  refine lv_ishr hx hb dX11_addBytes_29 ?_
  refine lv_topi (fun x4 ex4 => ?_)
  refine lv_sipush (v := 255) hx hb dX11_addBytes_30 (by decide) ?_
  refine lv_iand hx hb dX11_addBytes_33 ?_
  refine lv_topi (fun x5 ex5 => ?_)
  refine g_iast F hK hP hD hS 1 rfl (vin (by decide +kernel)) dX11_addBytes_34 (fun f_ => [(x, .inr (11, [.ref x_0, .int 1, .ref sp, .ref stm, .ref pl, .ref sk, .ref se, .ref ch, .int 0, .int (-1), .long 1, .ref x_11, .int 0, .ref x_13])), (x_0, .inl (G.2.1, 1800, .inl f_))]) (fun _ => rfl) (fun f6 H locs ef6 (hP : va_P G.1 vwCl [(x, .inr (11, [.ref x_0, .int 1, .ref sp, .ref stm, .ref pl, .ref sk, .ref se, .ref ch, .int 0, .int (-1), .long 1, .ref x_11, .int 0, .ref x_13])), (x_0, .inl (G.2.1, 1800, .inl f6))] H) (hD : va_D A [(x, .inr (11, [.ref x_0, .int 1, .ref sp, .ref stm, .ref pl, .ref sk, .ref se, .ref ch, .int 0, .int (-1), .long 1, .ref x_11, .int 0, .ref x_13])), (x_0, .inl (G.2.1, 1800, .inl f6))]) hS => ?_)
  refine lv_aload_n hx hb dX11_addBytes_35 rfl (lv_at hl 1 rfl) ?_
  refine lv_dup hx hb dX11_addBytes_36 rfl ?_
  refine g_get F hK hP 0 rfl clX11 1 (by decide) flX11_13 rfl dX11_addBytes_37 ?_
  refine lv_iconst (v := 1) hx hb dX11_addBytes_40 (by decide) ?_
  refine lv_iadd hx hb dX11_addBytes_41 ?_
  refine cst_i (y := 2) (by decide +kernel) ?_
  refine g_put (w' := [(x, .inr (11, [.ref x_0, .int 2, .ref sp, .ref stm, .ref pl, .ref sk, .ref se, .ref ch, .int 0, .int (-1), .long 1, .ref x_11, .int 0, .ref x_13])), (x_0, .inl (G.2.1, 1800, .inl f6))]) F hK hP hD hS 0 rfl clX11 1 (by decide) flX11_13 rfl rfl rfl (Nat.le_of_ble_eq_true rfl) dX11_addBytes_42 rfl (fun H locs hP hD hS => ?_)
  refine lv_iinc (v := 8) (lv' := [(2, .int 8), (0, .ref x), (1, .int a)]) hx hb dX11_addBytes_45 hl (k := 0) rfl (by decide +kernel) (by decide) rfl (fun ls hl => ?_)
  refine lv_goto (tgt := 3) hx hb dX11_addBytes_48 (by decide) ?_
  refine lv_iload_n hx hb dX11_addBytes_3 rfl (lv_at hl 0 rfl) ?_
  refine lv_if_lt (tgt := 51) hx hb dX11_addBytes_4 (by decide) (fun h_ => absurd h_ (by decide +kernel)) (fun _ => ?_)
  refine lv_aload_n hx hb dX11_addBytes_7 rfl (lv_at hl 1 rfl) ?_
  refine g_get F hK hP 0 rfl clX11 1 (by decide) flX11_13 rfl dX11_addBytes_8 ?_
  refine lv_aload_n hx hb dX11_addBytes_11 rfl (lv_at hl 1 rfl) ?_
  refine g_get F hK hP 0 rfl clX11 0 (by decide) flX11_9 rfl dX11_addBytes_12 ?_
  refine g_ialen (v := 1800) F hK hP 1 rfl rfl dX11_addBytes_15 ?_
  refine lv_icmp_ge (tgt := 51) hx hb dX11_addBytes_16 (by decide) (fun h_ => absurd h_ (by decide +kernel)) (fun _ => ?_)
  refine lv_aload_n hx hb dX11_addBytes_19 rfl (lv_at hl 1 rfl) ?_
  refine g_get F hK hP 0 rfl clX11 0 (by decide) flX11_9 rfl dX11_addBytes_20 ?_
  refine lv_aload_n hx hb dX11_addBytes_23 rfl (lv_at hl 1 rfl) ?_
  refine g_get F hK hP 0 rfl clX11 1 (by decide) flX11_13 rfl dX11_addBytes_24 ?_
  refine lv_iload_n hx hb dX11_addBytes_27 rfl (lv_at hl 2 rfl) ?_
  refine lv_iload_n hx hb dX11_addBytes_28 rfl (lv_at hl 0 rfl) ?_
  refine lv_ishr hx hb dX11_addBytes_29 ?_
  refine lv_topi (fun x7 ex7 => ?_)
  refine lv_sipush (v := 255) hx hb dX11_addBytes_30 (by decide) ?_
  refine lv_iand hx hb dX11_addBytes_33 ?_
  refine lv_topi (fun x8 ex8 => ?_)
  refine g_iast F hK hP hD hS 1 rfl (vin (by decide +kernel)) dX11_addBytes_34 (fun f_ => [(x, .inr (11, [.ref x_0, .int 2, .ref sp, .ref stm, .ref pl, .ref sk, .ref se, .ref ch, .int 0, .int (-1), .long 1, .ref x_11, .int 0, .ref x_13])), (x_0, .inl (G.2.1, 1800, .inl f_))]) (fun _ => rfl) (fun f9 H locs ef9 (hP : va_P G.1 vwCl [(x, .inr (11, [.ref x_0, .int 2, .ref sp, .ref stm, .ref pl, .ref sk, .ref se, .ref ch, .int 0, .int (-1), .long 1, .ref x_11, .int 0, .ref x_13])), (x_0, .inl (G.2.1, 1800, .inl f9))] H) (hD : va_D A [(x, .inr (11, [.ref x_0, .int 2, .ref sp, .ref stm, .ref pl, .ref sk, .ref se, .ref ch, .int 0, .int (-1), .long 1, .ref x_11, .int 0, .ref x_13])), (x_0, .inl (G.2.1, 1800, .inl f9))]) hS => ?_)
  refine lv_aload_n hx hb dX11_addBytes_35 rfl (lv_at hl 1 rfl) ?_
  refine lv_dup hx hb dX11_addBytes_36 rfl ?_
  refine g_get F hK hP 0 rfl clX11 1 (by decide) flX11_13 rfl dX11_addBytes_37 ?_
  refine lv_iconst (v := 1) hx hb dX11_addBytes_40 (by decide) ?_
  refine lv_iadd hx hb dX11_addBytes_41 ?_
  refine cst_i (y := 3) (by decide +kernel) ?_
  refine g_put (w' := [(x, .inr (11, [.ref x_0, .int 3, .ref sp, .ref stm, .ref pl, .ref sk, .ref se, .ref ch, .int 0, .int (-1), .long 1, .ref x_11, .int 0, .ref x_13])), (x_0, .inl (G.2.1, 1800, .inl f9))]) F hK hP hD hS 0 rfl clX11 1 (by decide) flX11_13 rfl rfl rfl (Nat.le_of_ble_eq_true rfl) dX11_addBytes_42 rfl (fun H locs hP hD hS => ?_)
  refine lv_iinc (v := 0) (lv' := [(2, .int 0), (0, .ref x), (1, .int a)]) hx hb dX11_addBytes_45 hl (k := 0) rfl (by decide +kernel) (by decide) rfl (fun ls hl => ?_)
  refine lv_goto (tgt := 3) hx hb dX11_addBytes_48 (by decide) ?_
  refine lv_iload_n hx hb dX11_addBytes_3 rfl (lv_at hl 0 rfl) ?_
  refine lv_if_lt (tgt := 51) hx hb dX11_addBytes_4 (by decide) (fun h_ => absurd h_ (by decide +kernel)) (fun _ => ?_)
  refine lv_aload_n hx hb dX11_addBytes_7 rfl (lv_at hl 1 rfl) ?_
  refine g_get F hK hP 0 rfl clX11 1 (by decide) flX11_13 rfl dX11_addBytes_8 ?_
  refine lv_aload_n hx hb dX11_addBytes_11 rfl (lv_at hl 1 rfl) ?_
  refine g_get F hK hP 0 rfl clX11 0 (by decide) flX11_9 rfl dX11_addBytes_12 ?_
  refine g_ialen (v := 1800) F hK hP 1 rfl rfl dX11_addBytes_15 ?_
  refine lv_icmp_ge (tgt := 51) hx hb dX11_addBytes_16 (by decide) (fun h_ => absurd h_ (by decide +kernel)) (fun _ => ?_)
  refine lv_aload_n hx hb dX11_addBytes_19 rfl (lv_at hl 1 rfl) ?_
  refine g_get F hK hP 0 rfl clX11 0 (by decide) flX11_9 rfl dX11_addBytes_20 ?_
  refine lv_aload_n hx hb dX11_addBytes_23 rfl (lv_at hl 1 rfl) ?_
  refine g_get F hK hP 0 rfl clX11 1 (by decide) flX11_13 rfl dX11_addBytes_24 ?_
  refine lv_iload_n hx hb dX11_addBytes_27 rfl (lv_at hl 2 rfl) ?_
  refine lv_iload_n hx hb dX11_addBytes_28 rfl (lv_at hl 0 rfl) ?_
  refine lv_ishr hx hb dX11_addBytes_29 ?_
  refine lv_topi (fun x10 ex10 => ?_)
  refine lv_sipush (v := 255) hx hb dX11_addBytes_30 (by decide) ?_
  refine lv_iand hx hb dX11_addBytes_33 ?_
  refine lv_topi (fun x11 ex11 => ?_)
  refine g_iast F hK hP hD hS 1 rfl (vin (by decide +kernel)) dX11_addBytes_34 (fun f_ => [(x, .inr (11, [.ref x_0, .int 3, .ref sp, .ref stm, .ref pl, .ref sk, .ref se, .ref ch, .int 0, .int (-1), .long 1, .ref x_11, .int 0, .ref x_13])), (x_0, .inl (G.2.1, 1800, .inl f_))]) (fun _ => rfl) (fun f12 H locs ef12 (hP : va_P G.1 vwCl [(x, .inr (11, [.ref x_0, .int 3, .ref sp, .ref stm, .ref pl, .ref sk, .ref se, .ref ch, .int 0, .int (-1), .long 1, .ref x_11, .int 0, .ref x_13])), (x_0, .inl (G.2.1, 1800, .inl f12))] H) (hD : va_D A [(x, .inr (11, [.ref x_0, .int 3, .ref sp, .ref stm, .ref pl, .ref sk, .ref se, .ref ch, .int 0, .int (-1), .long 1, .ref x_11, .int 0, .ref x_13])), (x_0, .inl (G.2.1, 1800, .inl f12))]) hS => ?_)
  refine lv_aload_n hx hb dX11_addBytes_35 rfl (lv_at hl 1 rfl) ?_
  refine lv_dup hx hb dX11_addBytes_36 rfl ?_
  refine g_get F hK hP 0 rfl clX11 1 (by decide) flX11_13 rfl dX11_addBytes_37 ?_
  refine lv_iconst (v := 1) hx hb dX11_addBytes_40 (by decide) ?_
  refine lv_iadd hx hb dX11_addBytes_41 ?_
  refine cst_i (y := 4) (by decide +kernel) ?_
  refine g_put (w' := [(x, .inr (11, [.ref x_0, .int 4, .ref sp, .ref stm, .ref pl, .ref sk, .ref se, .ref ch, .int 0, .int (-1), .long 1, .ref x_11, .int 0, .ref x_13])), (x_0, .inl (G.2.1, 1800, .inl f12))]) F hK hP hD hS 0 rfl clX11 1 (by decide) flX11_13 rfl rfl rfl (Nat.le_of_ble_eq_true rfl) dX11_addBytes_42 rfl (fun H locs hP hD hS => ?_)
  refine lv_iinc (v := (-8)) (lv' := [(2, .int (-8)), (0, .ref x), (1, .int a)]) hx hb dX11_addBytes_45 hl (k := 0) rfl (by decide +kernel) (by decide) rfl (fun ls hl => ?_)
  refine lv_goto (tgt := 3) hx hb dX11_addBytes_48 (by decide) ?_
  refine lv_iload_n hx hb dX11_addBytes_3 rfl (lv_at hl 0 rfl) ?_
  refine lv_if_lt (tgt := 51) hx hb dX11_addBytes_4 (by decide) (fun _ => ?_) (fun h_ => absurd (by decide +kernel) h_)
  exact r_v F hr hlk hP hD hS f12 [0, 1] rfl rfl trivial dX11_addBytes_51 (Nat.le_of_ble_eq_true rfl) (Nat.le_of_ble_eq_true rfl)
set_option maxHeartbeats 4000000 in
set_option maxRecDepth 100000 in
theorem k_X11_addBytes_4 (l : Launch) (G : Gx) (x : Nat) (a : Int32) (x_0 : Nat) (sp : Nat) (stm : Nat) (pl : Nat) (sk : Nat) (se : Nat) (ch : Nat) (x_11 : Nat) (x_13 : Nat) (f : Nat → Int32)  : CtV (S := Nat → Int32) l yX11_addBytes cX11_addBytes 3 none (rmD 1 0 0) G [.ref x, .int a] [(x, .inr (11, [.ref x_0, .int 4, .ref sp, .ref stm, .ref pl, .ref sk, .ref se, .ref ch, .int 0, .int (-1), .long 1, .ref x_11, .int 0, .ref x_13])), (x_0, .inl (G.2.1, 1800, .inl f))] (fun _ => True) (fun u => [(x, .inr (11, [.ref x_0, .int 8, .ref sp, .ref stm, .ref pl, .ref sk, .ref se, .ref ch, .int 0, .int (-1), .long 1, .ref x_11, .int 0, .ref x_13])), (x_0, .inl (G.2.1, 1800, .inl u))]) := by
  refine ctV_of (own := RX11) (by decide +kernel) rfl (Nat.le_of_ble_eq_true rfl) ?_
  intro p e s m below meth c A ls F hr hlk hnm hK hP hD hA hS hl
  have hx := F.1
  have hb := F.2.1
  have hown := F.2.2.2.1
  have hl : lv_has ls 3 [(0, .ref x), (1, .int a)] := hl
  refine lv_bipush (v := 24) hx hb dX11_addBytes_0 (by decide) ?_
  refine lv_istore_n (lv' := [(2, .int 24), (0, .ref x), (1, .int a)]) hx hb dX11_addBytes_2 rfl hl (by decide) rfl (fun ls hl => ?_)
  refine lv_iload_n hx hb dX11_addBytes_3 rfl (lv_at hl 0 rfl) ?_
  refine lv_if_lt (tgt := 51) hx hb dX11_addBytes_4 (by decide) (fun h_ => absurd h_ (by decide +kernel)) (fun _ => ?_)
  refine lv_aload_n hx hb dX11_addBytes_7 rfl (lv_at hl 1 rfl) ?_
  refine g_get F hK hP 0 rfl clX11 1 (by decide) flX11_13 rfl dX11_addBytes_8 ?_
  refine lv_aload_n hx hb dX11_addBytes_11 rfl (lv_at hl 1 rfl) ?_
  refine g_get F hK hP 0 rfl clX11 0 (by decide) flX11_9 rfl dX11_addBytes_12 ?_
  refine g_ialen (v := 1800) F hK hP 1 rfl rfl dX11_addBytes_15 ?_
  refine lv_icmp_ge (tgt := 51) hx hb dX11_addBytes_16 (by decide) (fun h_ => absurd h_ (by decide +kernel)) (fun _ => ?_)
  refine lv_aload_n hx hb dX11_addBytes_19 rfl (lv_at hl 1 rfl) ?_
  refine g_get F hK hP 0 rfl clX11 0 (by decide) flX11_9 rfl dX11_addBytes_20 ?_
  refine lv_aload_n hx hb dX11_addBytes_23 rfl (lv_at hl 1 rfl) ?_
  refine g_get F hK hP 0 rfl clX11 1 (by decide) flX11_13 rfl dX11_addBytes_24 ?_
  refine lv_iload_n hx hb dX11_addBytes_27 rfl (lv_at hl 2 rfl) ?_
  refine lv_iload_n hx hb dX11_addBytes_28 rfl (lv_at hl 0 rfl) ?_
  refine lv_ishr hx hb dX11_addBytes_29 ?_
  refine lv_topi (fun x1 ex1 => ?_)
  refine lv_sipush (v := 255) hx hb dX11_addBytes_30 (by decide) ?_
  refine lv_iand hx hb dX11_addBytes_33 ?_
  refine lv_topi (fun x2 ex2 => ?_)
  refine g_iast F hK hP hD hS 1 rfl (vin (by decide +kernel)) dX11_addBytes_34 (fun f_ => [(x, .inr (11, [.ref x_0, .int 4, .ref sp, .ref stm, .ref pl, .ref sk, .ref se, .ref ch, .int 0, .int (-1), .long 1, .ref x_11, .int 0, .ref x_13])), (x_0, .inl (G.2.1, 1800, .inl f_))]) (fun _ => rfl) (fun f3 H locs ef3 (hP : va_P G.1 vwCl [(x, .inr (11, [.ref x_0, .int 4, .ref sp, .ref stm, .ref pl, .ref sk, .ref se, .ref ch, .int 0, .int (-1), .long 1, .ref x_11, .int 0, .ref x_13])), (x_0, .inl (G.2.1, 1800, .inl f3))] H) (hD : va_D A [(x, .inr (11, [.ref x_0, .int 4, .ref sp, .ref stm, .ref pl, .ref sk, .ref se, .ref ch, .int 0, .int (-1), .long 1, .ref x_11, .int 0, .ref x_13])), (x_0, .inl (G.2.1, 1800, .inl f3))]) hS => ?_)
  refine lv_aload_n hx hb dX11_addBytes_35 rfl (lv_at hl 1 rfl) ?_
  refine lv_dup hx hb dX11_addBytes_36 rfl ?_
  refine g_get F hK hP 0 rfl clX11 1 (by decide) flX11_13 rfl dX11_addBytes_37 ?_
  refine lv_iconst (v := 1) hx hb dX11_addBytes_40 (by decide) ?_
  refine lv_iadd hx hb dX11_addBytes_41 ?_
  refine cst_i (y := 5) (by decide +kernel) ?_
  refine g_put (w' := [(x, .inr (11, [.ref x_0, .int 5, .ref sp, .ref stm, .ref pl, .ref sk, .ref se, .ref ch, .int 0, .int (-1), .long 1, .ref x_11, .int 0, .ref x_13])), (x_0, .inl (G.2.1, 1800, .inl f3))]) F hK hP hD hS 0 rfl clX11 1 (by decide) flX11_13 rfl rfl rfl (Nat.le_of_ble_eq_true rfl) dX11_addBytes_42 rfl (fun H locs hP hD hS => ?_)
  refine lv_iinc (v := 16) (lv' := [(2, .int 16), (0, .ref x), (1, .int a)]) hx hb dX11_addBytes_45 hl (k := 0) rfl (by decide +kernel) (by decide) rfl (fun ls hl => ?_)
  refine lv_goto (tgt := 3) hx hb dX11_addBytes_48 (by decide) ?_
  refine lv_iload_n hx hb dX11_addBytes_3 rfl (lv_at hl 0 rfl) ?_
  refine lv_if_lt (tgt := 51) hx hb dX11_addBytes_4 (by decide) (fun h_ => absurd h_ (by decide +kernel)) (fun _ => ?_)
  refine lv_aload_n hx hb dX11_addBytes_7 rfl (lv_at hl 1 rfl) ?_
  refine g_get F hK hP 0 rfl clX11 1 (by decide) flX11_13 rfl dX11_addBytes_8 ?_
  refine lv_aload_n hx hb dX11_addBytes_11 rfl (lv_at hl 1 rfl) ?_
  refine g_get F hK hP 0 rfl clX11 0 (by decide) flX11_9 rfl dX11_addBytes_12 ?_
  refine g_ialen (v := 1800) F hK hP 1 rfl rfl dX11_addBytes_15 ?_
  refine lv_icmp_ge (tgt := 51) hx hb dX11_addBytes_16 (by decide) (fun h_ => absurd h_ (by decide +kernel)) (fun _ => ?_)
  refine lv_aload_n hx hb dX11_addBytes_19 rfl (lv_at hl 1 rfl) ?_
  refine g_get F hK hP 0 rfl clX11 0 (by decide) flX11_9 rfl dX11_addBytes_20 ?_
  refine lv_aload_n hx hb dX11_addBytes_23 rfl (lv_at hl 1 rfl) ?_
  refine g_get F hK hP 0 rfl clX11 1 (by decide) flX11_13 rfl dX11_addBytes_24 ?_
  refine lv_iload_n hx hb dX11_addBytes_27 rfl (lv_at hl 2 rfl) ?_
  refine lv_iload_n hx hb dX11_addBytes_28 rfl (lv_at hl 0 rfl) ?_
  refine lv_ishr hx hb dX11_addBytes_29 ?_
  refine lv_topi (fun x4 ex4 => ?_)
  refine lv_sipush (v := 255) hx hb dX11_addBytes_30 (by decide) ?_
  refine lv_iand hx hb dX11_addBytes_33 ?_
  refine lv_topi (fun x5 ex5 => ?_)
  refine g_iast F hK hP hD hS 1 rfl (vin (by decide +kernel)) dX11_addBytes_34 (fun f_ => [(x, .inr (11, [.ref x_0, .int 5, .ref sp, .ref stm, .ref pl, .ref sk, .ref se, .ref ch, .int 0, .int (-1), .long 1, .ref x_11, .int 0, .ref x_13])), (x_0, .inl (G.2.1, 1800, .inl f_))]) (fun _ => rfl) (fun f6 H locs ef6 (hP : va_P G.1 vwCl [(x, .inr (11, [.ref x_0, .int 5, .ref sp, .ref stm, .ref pl, .ref sk, .ref se, .ref ch, .int 0, .int (-1), .long 1, .ref x_11, .int 0, .ref x_13])), (x_0, .inl (G.2.1, 1800, .inl f6))] H) (hD : va_D A [(x, .inr (11, [.ref x_0, .int 5, .ref sp, .ref stm, .ref pl, .ref sk, .ref se, .ref ch, .int 0, .int (-1), .long 1, .ref x_11, .int 0, .ref x_13])), (x_0, .inl (G.2.1, 1800, .inl f6))]) hS => ?_)
  refine lv_aload_n hx hb dX11_addBytes_35 rfl (lv_at hl 1 rfl) ?_
  refine lv_dup hx hb dX11_addBytes_36 rfl ?_
  refine g_get F hK hP 0 rfl clX11 1 (by decide) flX11_13 rfl dX11_addBytes_37 ?_
  refine lv_iconst (v := 1) hx hb dX11_addBytes_40 (by decide) ?_
  refine lv_iadd hx hb dX11_addBytes_41 ?_
  refine cst_i (y := 6) (by decide +kernel) ?_
  refine g_put (w' := [(x, .inr (11, [.ref x_0, .int 6, .ref sp, .ref stm, .ref pl, .ref sk, .ref se, .ref ch, .int 0, .int (-1), .long 1, .ref x_11, .int 0, .ref x_13])), (x_0, .inl (G.2.1, 1800, .inl f6))]) F hK hP hD hS 0 rfl clX11 1 (by decide) flX11_13 rfl rfl rfl (Nat.le_of_ble_eq_true rfl) dX11_addBytes_42 rfl (fun H locs hP hD hS => ?_)
  refine lv_iinc (v := 8) (lv' := [(2, .int 8), (0, .ref x), (1, .int a)]) hx hb dX11_addBytes_45 hl (k := 0) rfl (by decide +kernel) (by decide) rfl (fun ls hl => ?_)
  refine lv_goto (tgt := 3) hx hb dX11_addBytes_48 (by decide) ?_
  refine lv_iload_n hx hb dX11_addBytes_3 rfl (lv_at hl 0 rfl) ?_
  refine lv_if_lt (tgt := 51) hx hb dX11_addBytes_4 (by decide) (fun h_ => absurd h_ (by decide +kernel)) (fun _ => ?_)
  refine lv_aload_n hx hb dX11_addBytes_7 rfl (lv_at hl 1 rfl) ?_
  refine g_get F hK hP 0 rfl clX11 1 (by decide) flX11_13 rfl dX11_addBytes_8 ?_
  refine lv_aload_n hx hb dX11_addBytes_11 rfl (lv_at hl 1 rfl) ?_
  refine g_get F hK hP 0 rfl clX11 0 (by decide) flX11_9 rfl dX11_addBytes_12 ?_
  refine g_ialen (v := 1800) F hK hP 1 rfl rfl dX11_addBytes_15 ?_
  refine lv_icmp_ge (tgt := 51) hx hb dX11_addBytes_16 (by decide) (fun h_ => absurd h_ (by decide +kernel)) (fun _ => ?_)
  refine lv_aload_n hx hb dX11_addBytes_19 rfl (lv_at hl 1 rfl) ?_
  refine g_get F hK hP 0 rfl clX11 0 (by decide) flX11_9 rfl dX11_addBytes_20 ?_
  refine lv_aload_n hx hb dX11_addBytes_23 rfl (lv_at hl 1 rfl) ?_
  refine g_get F hK hP 0 rfl clX11 1 (by decide) flX11_13 rfl dX11_addBytes_24 ?_
  refine lv_iload_n hx hb dX11_addBytes_27 rfl (lv_at hl 2 rfl) ?_
  refine lv_iload_n hx hb dX11_addBytes_28 rfl (lv_at hl 0 rfl) ?_
  refine lv_ishr hx hb dX11_addBytes_29 ?_
  refine lv_topi (fun x7 ex7 => ?_)
  refine lv_sipush (v := 255) hx hb dX11_addBytes_30 (by decide) ?_
  refine lv_iand hx hb dX11_addBytes_33 ?_
  refine lv_topi (fun x8 ex8 => ?_)
  refine g_iast F hK hP hD hS 1 rfl (vin (by decide +kernel)) dX11_addBytes_34 (fun f_ => [(x, .inr (11, [.ref x_0, .int 6, .ref sp, .ref stm, .ref pl, .ref sk, .ref se, .ref ch, .int 0, .int (-1), .long 1, .ref x_11, .int 0, .ref x_13])), (x_0, .inl (G.2.1, 1800, .inl f_))]) (fun _ => rfl) (fun f9 H locs ef9 (hP : va_P G.1 vwCl [(x, .inr (11, [.ref x_0, .int 6, .ref sp, .ref stm, .ref pl, .ref sk, .ref se, .ref ch, .int 0, .int (-1), .long 1, .ref x_11, .int 0, .ref x_13])), (x_0, .inl (G.2.1, 1800, .inl f9))] H) (hD : va_D A [(x, .inr (11, [.ref x_0, .int 6, .ref sp, .ref stm, .ref pl, .ref sk, .ref se, .ref ch, .int 0, .int (-1), .long 1, .ref x_11, .int 0, .ref x_13])), (x_0, .inl (G.2.1, 1800, .inl f9))]) hS => ?_)
  refine lv_aload_n hx hb dX11_addBytes_35 rfl (lv_at hl 1 rfl) ?_
  refine lv_dup hx hb dX11_addBytes_36 rfl ?_
  refine g_get F hK hP 0 rfl clX11 1 (by decide) flX11_13 rfl dX11_addBytes_37 ?_
  refine lv_iconst (v := 1) hx hb dX11_addBytes_40 (by decide) ?_
  refine lv_iadd hx hb dX11_addBytes_41 ?_
  refine cst_i (y := 7) (by decide +kernel) ?_
  refine g_put (w' := [(x, .inr (11, [.ref x_0, .int 7, .ref sp, .ref stm, .ref pl, .ref sk, .ref se, .ref ch, .int 0, .int (-1), .long 1, .ref x_11, .int 0, .ref x_13])), (x_0, .inl (G.2.1, 1800, .inl f9))]) F hK hP hD hS 0 rfl clX11 1 (by decide) flX11_13 rfl rfl rfl (Nat.le_of_ble_eq_true rfl) dX11_addBytes_42 rfl (fun H locs hP hD hS => ?_)
  refine lv_iinc (v := 0) (lv' := [(2, .int 0), (0, .ref x), (1, .int a)]) hx hb dX11_addBytes_45 hl (k := 0) rfl (by decide +kernel) (by decide) rfl (fun ls hl => ?_)
  refine lv_goto (tgt := 3) hx hb dX11_addBytes_48 (by decide) ?_
  refine lv_iload_n hx hb dX11_addBytes_3 rfl (lv_at hl 0 rfl) ?_
  refine lv_if_lt (tgt := 51) hx hb dX11_addBytes_4 (by decide) (fun h_ => absurd h_ (by decide +kernel)) (fun _ => ?_)
  refine lv_aload_n hx hb dX11_addBytes_7 rfl (lv_at hl 1 rfl) ?_
  refine g_get F hK hP 0 rfl clX11 1 (by decide) flX11_13 rfl dX11_addBytes_8 ?_
  refine lv_aload_n hx hb dX11_addBytes_11 rfl (lv_at hl 1 rfl) ?_
  refine g_get F hK hP 0 rfl clX11 0 (by decide) flX11_9 rfl dX11_addBytes_12 ?_
  refine g_ialen (v := 1800) F hK hP 1 rfl rfl dX11_addBytes_15 ?_
  refine lv_icmp_ge (tgt := 51) hx hb dX11_addBytes_16 (by decide) (fun h_ => absurd h_ (by decide +kernel)) (fun _ => ?_)
  refine lv_aload_n hx hb dX11_addBytes_19 rfl (lv_at hl 1 rfl) ?_
  refine g_get F hK hP 0 rfl clX11 0 (by decide) flX11_9 rfl dX11_addBytes_20 ?_
  refine lv_aload_n hx hb dX11_addBytes_23 rfl (lv_at hl 1 rfl) ?_
  refine g_get F hK hP 0 rfl clX11 1 (by decide) flX11_13 rfl dX11_addBytes_24 ?_
  refine lv_iload_n hx hb dX11_addBytes_27 rfl (lv_at hl 2 rfl) ?_
  refine lv_iload_n hx hb dX11_addBytes_28 rfl (lv_at hl 0 rfl) ?_
  refine lv_ishr hx hb dX11_addBytes_29 ?_
  refine lv_topi (fun x10 ex10 => ?_)
  refine lv_sipush (v := 255) hx hb dX11_addBytes_30 (by decide) ?_
  refine lv_iand hx hb dX11_addBytes_33 ?_
  refine lv_topi (fun x11 ex11 => ?_)
  refine g_iast F hK hP hD hS 1 rfl (vin (by decide +kernel)) dX11_addBytes_34 (fun f_ => [(x, .inr (11, [.ref x_0, .int 7, .ref sp, .ref stm, .ref pl, .ref sk, .ref se, .ref ch, .int 0, .int (-1), .long 1, .ref x_11, .int 0, .ref x_13])), (x_0, .inl (G.2.1, 1800, .inl f_))]) (fun _ => rfl) (fun f12 H locs ef12 (hP : va_P G.1 vwCl [(x, .inr (11, [.ref x_0, .int 7, .ref sp, .ref stm, .ref pl, .ref sk, .ref se, .ref ch, .int 0, .int (-1), .long 1, .ref x_11, .int 0, .ref x_13])), (x_0, .inl (G.2.1, 1800, .inl f12))] H) (hD : va_D A [(x, .inr (11, [.ref x_0, .int 7, .ref sp, .ref stm, .ref pl, .ref sk, .ref se, .ref ch, .int 0, .int (-1), .long 1, .ref x_11, .int 0, .ref x_13])), (x_0, .inl (G.2.1, 1800, .inl f12))]) hS => ?_)
  refine lv_aload_n hx hb dX11_addBytes_35 rfl (lv_at hl 1 rfl) ?_
  refine lv_dup hx hb dX11_addBytes_36 rfl ?_
  refine g_get F hK hP 0 rfl clX11 1 (by decide) flX11_13 rfl dX11_addBytes_37 ?_
  refine lv_iconst (v := 1) hx hb dX11_addBytes_40 (by decide) ?_
  refine lv_iadd hx hb dX11_addBytes_41 ?_
  refine cst_i (y := 8) (by decide +kernel) ?_
  refine g_put (w' := [(x, .inr (11, [.ref x_0, .int 8, .ref sp, .ref stm, .ref pl, .ref sk, .ref se, .ref ch, .int 0, .int (-1), .long 1, .ref x_11, .int 0, .ref x_13])), (x_0, .inl (G.2.1, 1800, .inl f12))]) F hK hP hD hS 0 rfl clX11 1 (by decide) flX11_13 rfl rfl rfl (Nat.le_of_ble_eq_true rfl) dX11_addBytes_42 rfl (fun H locs hP hD hS => ?_)
  refine lv_iinc (v := (-8)) (lv' := [(2, .int (-8)), (0, .ref x), (1, .int a)]) hx hb dX11_addBytes_45 hl (k := 0) rfl (by decide +kernel) (by decide) rfl (fun ls hl => ?_)
  refine lv_goto (tgt := 3) hx hb dX11_addBytes_48 (by decide) ?_
  refine lv_iload_n hx hb dX11_addBytes_3 rfl (lv_at hl 0 rfl) ?_
  refine lv_if_lt (tgt := 51) hx hb dX11_addBytes_4 (by decide) (fun _ => ?_) (fun h_ => absurd (by decide +kernel) h_)
  exact r_v F hr hlk hP hD hS f12 [0, 1] rfl rfl trivial dX11_addBytes_51 (Nat.le_of_ble_eq_true rfl) (Nat.le_of_ble_eq_true rfl)
set_option maxHeartbeats 4000000 in
set_option maxRecDepth 100000 in
theorem k_X11_addBytes_8 (l : Launch) (G : Gx) (x : Nat) (a : Int32) (x_0 : Nat) (sp : Nat) (stm : Nat) (pl : Nat) (sk : Nat) (se : Nat) (ch : Nat) (x_11 : Nat) (x_13 : Nat) (f : Nat → Int32)  : CtV (S := Nat → Int32) l yX11_addBytes cX11_addBytes 3 none (rmD 1 0 0) G [.ref x, .int a] [(x, .inr (11, [.ref x_0, .int 8, .ref sp, .ref stm, .ref pl, .ref sk, .ref se, .ref ch, .int 0, .int (-1), .long 1, .ref x_11, .int 0, .ref x_13])), (x_0, .inl (G.2.1, 1800, .inl f))] (fun _ => True) (fun u => [(x, .inr (11, [.ref x_0, .int 12, .ref sp, .ref stm, .ref pl, .ref sk, .ref se, .ref ch, .int 0, .int (-1), .long 1, .ref x_11, .int 0, .ref x_13])), (x_0, .inl (G.2.1, 1800, .inl u))]) := by
  refine ctV_of (own := RX11) (by decide +kernel) rfl (Nat.le_of_ble_eq_true rfl) ?_
  intro p e s m below meth c A ls F hr hlk hnm hK hP hD hA hS hl
  have hx := F.1
  have hb := F.2.1
  have hown := F.2.2.2.1
  have hl : lv_has ls 3 [(0, .ref x), (1, .int a)] := hl
  refine lv_bipush (v := 24) hx hb dX11_addBytes_0 (by decide) ?_
  refine lv_istore_n (lv' := [(2, .int 24), (0, .ref x), (1, .int a)]) hx hb dX11_addBytes_2 rfl hl (by decide) rfl (fun ls hl => ?_)
  refine lv_iload_n hx hb dX11_addBytes_3 rfl (lv_at hl 0 rfl) ?_
  refine lv_if_lt (tgt := 51) hx hb dX11_addBytes_4 (by decide) (fun h_ => absurd h_ (by decide +kernel)) (fun _ => ?_)
  refine lv_aload_n hx hb dX11_addBytes_7 rfl (lv_at hl 1 rfl) ?_
  refine g_get F hK hP 0 rfl clX11 1 (by decide) flX11_13 rfl dX11_addBytes_8 ?_
  refine lv_aload_n hx hb dX11_addBytes_11 rfl (lv_at hl 1 rfl) ?_
  refine g_get F hK hP 0 rfl clX11 0 (by decide) flX11_9 rfl dX11_addBytes_12 ?_
  refine g_ialen (v := 1800) F hK hP 1 rfl rfl dX11_addBytes_15 ?_
  refine lv_icmp_ge (tgt := 51) hx hb dX11_addBytes_16 (by decide) (fun h_ => absurd h_ (by decide +kernel)) (fun _ => ?_)
  refine lv_aload_n hx hb dX11_addBytes_19 rfl (lv_at hl 1 rfl) ?_
  refine g_get F hK hP 0 rfl clX11 0 (by decide) flX11_9 rfl dX11_addBytes_20 ?_
  refine lv_aload_n hx hb dX11_addBytes_23 rfl (lv_at hl 1 rfl) ?_
  refine g_get F hK hP 0 rfl clX11 1 (by decide) flX11_13 rfl dX11_addBytes_24 ?_
  refine lv_iload_n hx hb dX11_addBytes_27 rfl (lv_at hl 2 rfl) ?_
  refine lv_iload_n hx hb dX11_addBytes_28 rfl (lv_at hl 0 rfl) ?_
  refine lv_ishr hx hb dX11_addBytes_29 ?_
  refine lv_topi (fun x1 ex1 => ?_)
  refine lv_sipush (v := 255) hx hb dX11_addBytes_30 (by decide) ?_
  refine lv_iand hx hb dX11_addBytes_33 ?_
  refine lv_topi (fun x2 ex2 => ?_)
  refine g_iast F hK hP hD hS 1 rfl (vin (by decide +kernel)) dX11_addBytes_34 (fun f_ => [(x, .inr (11, [.ref x_0, .int 8, .ref sp, .ref stm, .ref pl, .ref sk, .ref se, .ref ch, .int 0, .int (-1), .long 1, .ref x_11, .int 0, .ref x_13])), (x_0, .inl (G.2.1, 1800, .inl f_))]) (fun _ => rfl) (fun f3 H locs ef3 (hP : va_P G.1 vwCl [(x, .inr (11, [.ref x_0, .int 8, .ref sp, .ref stm, .ref pl, .ref sk, .ref se, .ref ch, .int 0, .int (-1), .long 1, .ref x_11, .int 0, .ref x_13])), (x_0, .inl (G.2.1, 1800, .inl f3))] H) (hD : va_D A [(x, .inr (11, [.ref x_0, .int 8, .ref sp, .ref stm, .ref pl, .ref sk, .ref se, .ref ch, .int 0, .int (-1), .long 1, .ref x_11, .int 0, .ref x_13])), (x_0, .inl (G.2.1, 1800, .inl f3))]) hS => ?_)
  refine lv_aload_n hx hb dX11_addBytes_35 rfl (lv_at hl 1 rfl) ?_
  refine lv_dup hx hb dX11_addBytes_36 rfl ?_
  refine g_get F hK hP 0 rfl clX11 1 (by decide) flX11_13 rfl dX11_addBytes_37 ?_
  refine lv_iconst (v := 1) hx hb dX11_addBytes_40 (by decide) ?_
  refine lv_iadd hx hb dX11_addBytes_41 ?_
  refine cst_i (y := 9) (by decide +kernel) ?_
  refine g_put (w' := [(x, .inr (11, [.ref x_0, .int 9, .ref sp, .ref stm, .ref pl, .ref sk, .ref se, .ref ch, .int 0, .int (-1), .long 1, .ref x_11, .int 0, .ref x_13])), (x_0, .inl (G.2.1, 1800, .inl f3))]) F hK hP hD hS 0 rfl clX11 1 (by decide) flX11_13 rfl rfl rfl (Nat.le_of_ble_eq_true rfl) dX11_addBytes_42 rfl (fun H locs hP hD hS => ?_)
  refine lv_iinc (v := 16) (lv' := [(2, .int 16), (0, .ref x), (1, .int a)]) hx hb dX11_addBytes_45 hl (k := 0) rfl (by decide +kernel) (by decide) rfl (fun ls hl => ?_)
  refine lv_goto (tgt := 3) hx hb dX11_addBytes_48 (by decide) ?_
  refine lv_iload_n hx hb dX11_addBytes_3 rfl (lv_at hl 0 rfl) ?_
  refine lv_if_lt (tgt := 51) hx hb dX11_addBytes_4 (by decide) (fun h_ => absurd h_ (by decide +kernel)) (fun _ => ?_)
  refine lv_aload_n hx hb dX11_addBytes_7 rfl (lv_at hl 1 rfl) ?_
  refine g_get F hK hP 0 rfl clX11 1 (by decide) flX11_13 rfl dX11_addBytes_8 ?_
  refine lv_aload_n hx hb dX11_addBytes_11 rfl (lv_at hl 1 rfl) ?_
  refine g_get F hK hP 0 rfl clX11 0 (by decide) flX11_9 rfl dX11_addBytes_12 ?_
  refine g_ialen (v := 1800) F hK hP 1 rfl rfl dX11_addBytes_15 ?_
  refine lv_icmp_ge (tgt := 51) hx hb dX11_addBytes_16 (by decide) (fun h_ => absurd h_ (by decide +kernel)) (fun _ => ?_)
  refine lv_aload_n hx hb dX11_addBytes_19 rfl (lv_at hl 1 rfl) ?_
  refine g_get F hK hP 0 rfl clX11 0 (by decide) flX11_9 rfl dX11_addBytes_20 ?_
  refine lv_aload_n hx hb dX11_addBytes_23 rfl (lv_at hl 1 rfl) ?_
  refine g_get F hK hP 0 rfl clX11 1 (by decide) flX11_13 rfl dX11_addBytes_24 ?_
  refine lv_iload_n hx hb dX11_addBytes_27 rfl (lv_at hl 2 rfl) ?_
  refine lv_iload_n hx hb dX11_addBytes_28 rfl (lv_at hl 0 rfl) ?_
  refine lv_ishr hx hb dX11_addBytes_29 ?_
  refine lv_topi (fun x4 ex4 => ?_)
  refine lv_sipush (v := 255) hx hb dX11_addBytes_30 (by decide) ?_
  refine lv_iand hx hb dX11_addBytes_33 ?_
  refine lv_topi (fun x5 ex5 => ?_)
  refine g_iast F hK hP hD hS 1 rfl (vin (by decide +kernel)) dX11_addBytes_34 (fun f_ => [(x, .inr (11, [.ref x_0, .int 9, .ref sp, .ref stm, .ref pl, .ref sk, .ref se, .ref ch, .int 0, .int (-1), .long 1, .ref x_11, .int 0, .ref x_13])), (x_0, .inl (G.2.1, 1800, .inl f_))]) (fun _ => rfl) (fun f6 H locs ef6 (hP : va_P G.1 vwCl [(x, .inr (11, [.ref x_0, .int 9, .ref sp, .ref stm, .ref pl, .ref sk, .ref se, .ref ch, .int 0, .int (-1), .long 1, .ref x_11, .int 0, .ref x_13])), (x_0, .inl (G.2.1, 1800, .inl f6))] H) (hD : va_D A [(x, .inr (11, [.ref x_0, .int 9, .ref sp, .ref stm, .ref pl, .ref sk, .ref se, .ref ch, .int 0, .int (-1), .long 1, .ref x_11, .int 0, .ref x_13])), (x_0, .inl (G.2.1, 1800, .inl f6))]) hS => ?_)
  refine lv_aload_n hx hb dX11_addBytes_35 rfl (lv_at hl 1 rfl) ?_
  refine lv_dup hx hb dX11_addBytes_36 rfl ?_
  refine g_get F hK hP 0 rfl clX11 1 (by decide) flX11_13 rfl dX11_addBytes_37 ?_
  refine lv_iconst (v := 1) hx hb dX11_addBytes_40 (by decide) ?_
  refine lv_iadd hx hb dX11_addBytes_41 ?_
  refine cst_i (y := 10) (by decide +kernel) ?_
  refine g_put (w' := [(x, .inr (11, [.ref x_0, .int 10, .ref sp, .ref stm, .ref pl, .ref sk, .ref se, .ref ch, .int 0, .int (-1), .long 1, .ref x_11, .int 0, .ref x_13])), (x_0, .inl (G.2.1, 1800, .inl f6))]) F hK hP hD hS 0 rfl clX11 1 (by decide) flX11_13 rfl rfl rfl (Nat.le_of_ble_eq_true rfl) dX11_addBytes_42 rfl (fun H locs hP hD hS => ?_)
  refine lv_iinc (v := 8) (lv' := [(2, .int 8), (0, .ref x), (1, .int a)]) hx hb dX11_addBytes_45 hl (k := 0) rfl (by decide +kernel) (by decide) rfl (fun ls hl => ?_)
  refine lv_goto (tgt := 3) hx hb dX11_addBytes_48 (by decide) ?_
  refine lv_iload_n hx hb dX11_addBytes_3 rfl (lv_at hl 0 rfl) ?_
  refine lv_if_lt (tgt := 51) hx hb dX11_addBytes_4 (by decide) (fun h_ => absurd h_ (by decide +kernel)) (fun _ => ?_)
  refine lv_aload_n hx hb dX11_addBytes_7 rfl (lv_at hl 1 rfl) ?_
  refine g_get F hK hP 0 rfl clX11 1 (by decide) flX11_13 rfl dX11_addBytes_8 ?_
  refine lv_aload_n hx hb dX11_addBytes_11 rfl (lv_at hl 1 rfl) ?_
  refine g_get F hK hP 0 rfl clX11 0 (by decide) flX11_9 rfl dX11_addBytes_12 ?_
  refine g_ialen (v := 1800) F hK hP 1 rfl rfl dX11_addBytes_15 ?_
  refine lv_icmp_ge (tgt := 51) hx hb dX11_addBytes_16 (by decide) (fun h_ => absurd h_ (by decide +kernel)) (fun _ => ?_)
  refine lv_aload_n hx hb dX11_addBytes_19 rfl (lv_at hl 1 rfl) ?_
  refine g_get F hK hP 0 rfl clX11 0 (by decide) flX11_9 rfl dX11_addBytes_20 ?_
  refine lv_aload_n hx hb dX11_addBytes_23 rfl (lv_at hl 1 rfl) ?_
  refine g_get F hK hP 0 rfl clX11 1 (by decide) flX11_13 rfl dX11_addBytes_24 ?_
  refine lv_iload_n hx hb dX11_addBytes_27 rfl (lv_at hl 2 rfl) ?_
  refine lv_iload_n hx hb dX11_addBytes_28 rfl (lv_at hl 0 rfl) ?_
  refine lv_ishr hx hb dX11_addBytes_29 ?_
  refine lv_topi (fun x7 ex7 => ?_)
  refine lv_sipush (v := 255) hx hb dX11_addBytes_30 (by decide) ?_
  refine lv_iand hx hb dX11_addBytes_33 ?_
  refine lv_topi (fun x8 ex8 => ?_)
  refine g_iast F hK hP hD hS 1 rfl (vin (by decide +kernel)) dX11_addBytes_34 (fun f_ => [(x, .inr (11, [.ref x_0, .int 10, .ref sp, .ref stm, .ref pl, .ref sk, .ref se, .ref ch, .int 0, .int (-1), .long 1, .ref x_11, .int 0, .ref x_13])), (x_0, .inl (G.2.1, 1800, .inl f_))]) (fun _ => rfl) (fun f9 H locs ef9 (hP : va_P G.1 vwCl [(x, .inr (11, [.ref x_0, .int 10, .ref sp, .ref stm, .ref pl, .ref sk, .ref se, .ref ch, .int 0, .int (-1), .long 1, .ref x_11, .int 0, .ref x_13])), (x_0, .inl (G.2.1, 1800, .inl f9))] H) (hD : va_D A [(x, .inr (11, [.ref x_0, .int 10, .ref sp, .ref stm, .ref pl, .ref sk, .ref se, .ref ch, .int 0, .int (-1), .long 1, .ref x_11, .int 0, .ref x_13])), (x_0, .inl (G.2.1, 1800, .inl f9))]) hS => ?_)
  refine lv_aload_n hx hb dX11_addBytes_35 rfl (lv_at hl 1 rfl) ?_
  refine lv_dup hx hb dX11_addBytes_36 rfl ?_
  refine g_get F hK hP 0 rfl clX11 1 (by decide) flX11_13 rfl dX11_addBytes_37 ?_
  refine lv_iconst (v := 1) hx hb dX11_addBytes_40 (by decide) ?_
  refine lv_iadd hx hb dX11_addBytes_41 ?_
  refine cst_i (y := 11) (by decide +kernel) ?_
  refine g_put (w' := [(x, .inr (11, [.ref x_0, .int 11, .ref sp, .ref stm, .ref pl, .ref sk, .ref se, .ref ch, .int 0, .int (-1), .long 1, .ref x_11, .int 0, .ref x_13])), (x_0, .inl (G.2.1, 1800, .inl f9))]) F hK hP hD hS 0 rfl clX11 1 (by decide) flX11_13 rfl rfl rfl (Nat.le_of_ble_eq_true rfl) dX11_addBytes_42 rfl (fun H locs hP hD hS => ?_)
  refine lv_iinc (v := 0) (lv' := [(2, .int 0), (0, .ref x), (1, .int a)]) hx hb dX11_addBytes_45 hl (k := 0) rfl (by decide +kernel) (by decide) rfl (fun ls hl => ?_)
  refine lv_goto (tgt := 3) hx hb dX11_addBytes_48 (by decide) ?_
  refine lv_iload_n hx hb dX11_addBytes_3 rfl (lv_at hl 0 rfl) ?_
  refine lv_if_lt (tgt := 51) hx hb dX11_addBytes_4 (by decide) (fun h_ => absurd h_ (by decide +kernel)) (fun _ => ?_)
  refine lv_aload_n hx hb dX11_addBytes_7 rfl (lv_at hl 1 rfl) ?_
  refine g_get F hK hP 0 rfl clX11 1 (by decide) flX11_13 rfl dX11_addBytes_8 ?_
  refine lv_aload_n hx hb dX11_addBytes_11 rfl (lv_at hl 1 rfl) ?_
  refine g_get F hK hP 0 rfl clX11 0 (by decide) flX11_9 rfl dX11_addBytes_12 ?_
  refine g_ialen (v := 1800) F hK hP 1 rfl rfl dX11_addBytes_15 ?_
  refine lv_icmp_ge (tgt := 51) hx hb dX11_addBytes_16 (by decide) (fun h_ => absurd h_ (by decide +kernel)) (fun _ => ?_)
  refine lv_aload_n hx hb dX11_addBytes_19 rfl (lv_at hl 1 rfl) ?_
  refine g_get F hK hP 0 rfl clX11 0 (by decide) flX11_9 rfl dX11_addBytes_20 ?_
  refine lv_aload_n hx hb dX11_addBytes_23 rfl (lv_at hl 1 rfl) ?_
  refine g_get F hK hP 0 rfl clX11 1 (by decide) flX11_13 rfl dX11_addBytes_24 ?_
  refine lv_iload_n hx hb dX11_addBytes_27 rfl (lv_at hl 2 rfl) ?_
  refine lv_iload_n hx hb dX11_addBytes_28 rfl (lv_at hl 0 rfl) ?_
  refine lv_ishr hx hb dX11_addBytes_29 ?_
  refine lv_topi (fun x10 ex10 => ?_)
  refine lv_sipush (v := 255) hx hb dX11_addBytes_30 (by decide) ?_
  refine lv_iand hx hb dX11_addBytes_33 ?_
  refine lv_topi (fun x11 ex11 => ?_)
  refine g_iast F hK hP hD hS 1 rfl (vin (by decide +kernel)) dX11_addBytes_34 (fun f_ => [(x, .inr (11, [.ref x_0, .int 11, .ref sp, .ref stm, .ref pl, .ref sk, .ref se, .ref ch, .int 0, .int (-1), .long 1, .ref x_11, .int 0, .ref x_13])), (x_0, .inl (G.2.1, 1800, .inl f_))]) (fun _ => rfl) (fun f12 H locs ef12 (hP : va_P G.1 vwCl [(x, .inr (11, [.ref x_0, .int 11, .ref sp, .ref stm, .ref pl, .ref sk, .ref se, .ref ch, .int 0, .int (-1), .long 1, .ref x_11, .int 0, .ref x_13])), (x_0, .inl (G.2.1, 1800, .inl f12))] H) (hD : va_D A [(x, .inr (11, [.ref x_0, .int 11, .ref sp, .ref stm, .ref pl, .ref sk, .ref se, .ref ch, .int 0, .int (-1), .long 1, .ref x_11, .int 0, .ref x_13])), (x_0, .inl (G.2.1, 1800, .inl f12))]) hS => ?_)
  refine lv_aload_n hx hb dX11_addBytes_35 rfl (lv_at hl 1 rfl) ?_
  refine lv_dup hx hb dX11_addBytes_36 rfl ?_
  refine g_get F hK hP 0 rfl clX11 1 (by decide) flX11_13 rfl dX11_addBytes_37 ?_
  refine lv_iconst (v := 1) hx hb dX11_addBytes_40 (by decide) ?_
  refine lv_iadd hx hb dX11_addBytes_41 ?_
  refine cst_i (y := 12) (by decide +kernel) ?_
  refine g_put (w' := [(x, .inr (11, [.ref x_0, .int 12, .ref sp, .ref stm, .ref pl, .ref sk, .ref se, .ref ch, .int 0, .int (-1), .long 1, .ref x_11, .int 0, .ref x_13])), (x_0, .inl (G.2.1, 1800, .inl f12))]) F hK hP hD hS 0 rfl clX11 1 (by decide) flX11_13 rfl rfl rfl (Nat.le_of_ble_eq_true rfl) dX11_addBytes_42 rfl (fun H locs hP hD hS => ?_)
  refine lv_iinc (v := (-8)) (lv' := [(2, .int (-8)), (0, .ref x), (1, .int a)]) hx hb dX11_addBytes_45 hl (k := 0) rfl (by decide +kernel) (by decide) rfl (fun ls hl => ?_)
  refine lv_goto (tgt := 3) hx hb dX11_addBytes_48 (by decide) ?_
  refine lv_iload_n hx hb dX11_addBytes_3 rfl (lv_at hl 0 rfl) ?_
  refine lv_if_lt (tgt := 51) hx hb dX11_addBytes_4 (by decide) (fun _ => ?_) (fun h_ => absurd (by decide +kernel) h_)
  exact r_v F hr hlk hP hD hS f12 [0, 1] rfl rfl trivial dX11_addBytes_51 (Nat.le_of_ble_eq_true rfl) (Nat.le_of_ble_eq_true rfl)
set_option maxHeartbeats 4000000 in
set_option maxRecDepth 100000 in
theorem k_X11_addBytes_12 (l : Launch) (G : Gx) (x : Nat) (a : Int32) (x_0 : Nat) (sp : Nat) (stm : Nat) (pl : Nat) (sk : Nat) (se : Nat) (ch : Nat) (x_11 : Nat) (x_13 : Nat) (f : Nat → Int32)  : CtV (S := Nat → Int32) l yX11_addBytes cX11_addBytes 3 none (rmD 1 0 0) G [.ref x, .int a] [(x, .inr (11, [.ref x_0, .int 12, .ref sp, .ref stm, .ref pl, .ref sk, .ref se, .ref ch, .int 0, .int (-1), .long 1, .ref x_11, .int 0, .ref x_13])), (x_0, .inl (G.2.1, 1800, .inl f))] (fun _ => True) (fun u => [(x, .inr (11, [.ref x_0, .int 16, .ref sp, .ref stm, .ref pl, .ref sk, .ref se, .ref ch, .int 0, .int (-1), .long 1, .ref x_11, .int 0, .ref x_13])), (x_0, .inl (G.2.1, 1800, .inl u))]) := by
  refine ctV_of (own := RX11) (by decide +kernel) rfl (Nat.le_of_ble_eq_true rfl) ?_
  intro p e s m below meth c A ls F hr hlk hnm hK hP hD hA hS hl
  have hx := F.1
  have hb := F.2.1
  have hown := F.2.2.2.1
  have hl : lv_has ls 3 [(0, .ref x), (1, .int a)] := hl
  refine lv_bipush (v := 24) hx hb dX11_addBytes_0 (by decide) ?_
  refine lv_istore_n (lv' := [(2, .int 24), (0, .ref x), (1, .int a)]) hx hb dX11_addBytes_2 rfl hl (by decide) rfl (fun ls hl => ?_)
  refine lv_iload_n hx hb dX11_addBytes_3 rfl (lv_at hl 0 rfl) ?_
  refine lv_if_lt (tgt := 51) hx hb dX11_addBytes_4 (by decide) (fun h_ => absurd h_ (by decide +kernel)) (fun _ => ?_)
  refine lv_aload_n hx hb dX11_addBytes_7 rfl (lv_at hl 1 rfl) ?_
  refine g_get F hK hP 0 rfl clX11 1 (by decide) flX11_13 rfl dX11_addBytes_8 ?_
  refine lv_aload_n hx hb dX11_addBytes_11 rfl (lv_at hl 1 rfl) ?_
  refine g_get F hK hP 0 rfl clX11 0 (by decide) flX11_9 rfl dX11_addBytes_12 ?_
  refine g_ialen (v := 1800) F hK hP 1 rfl rfl dX11_addBytes_15 ?_
  refine lv_icmp_ge (tgt := 51) hx hb dX11_addBytes_16 (by decide) (fun h_ => absurd h_ (by decide +kernel)) (fun _ => ?_)
  refine lv_aload_n hx hb dX11_addBytes_19 rfl (lv_at hl 1 rfl) ?_
  refine g_get F hK hP 0 rfl clX11 0 (by decide) flX11_9 rfl dX11_addBytes_20 ?_
  refine lv_aload_n hx hb dX11_addBytes_23 rfl (lv_at hl 1 rfl) ?_
  refine g_get F hK hP 0 rfl clX11 1 (by decide) flX11_13 rfl dX11_addBytes_24 ?_
  refine lv_iload_n hx hb dX11_addBytes_27 rfl (lv_at hl 2 rfl) ?_
  refine lv_iload_n hx hb dX11_addBytes_28 rfl (lv_at hl 0 rfl) ?_
  refine lv_ishr hx hb dX11_addBytes_29 ?_
  refine lv_topi (fun x1 ex1 => ?_)
  refine lv_sipush (v := 255) hx hb dX11_addBytes_30 (by decide) ?_
  refine lv_iand hx hb dX11_addBytes_33 ?_
  refine lv_topi (fun x2 ex2 => ?_)
  refine g_iast F hK hP hD hS 1 rfl (vin (by decide +kernel)) dX11_addBytes_34 (fun f_ => [(x, .inr (11, [.ref x_0, .int 12, .ref sp, .ref stm, .ref pl, .ref sk, .ref se, .ref ch, .int 0, .int (-1), .long 1, .ref x_11, .int 0, .ref x_13])), (x_0, .inl (G.2.1, 1800, .inl f_))]) (fun _ => rfl) (fun f3 H locs ef3 (hP : va_P G.1 vwCl [(x, .inr (11, [.ref x_0, .int 12, .ref sp, .ref stm, .ref pl, .ref sk, .ref se, .ref ch, .int 0, .int (-1), .long 1, .ref x_11, .int 0, .ref x_13])), (x_0, .inl (G.2.1, 1800, .inl f3))] H) (hD : va_D A [(x, .inr (11, [.ref x_0, .int 12, .ref sp, .ref stm, .ref pl, .ref sk, .ref se, .ref ch, .int 0, .int (-1), .long 1, .ref x_11, .int 0, .ref x_13])), (x_0, .inl (G.2.1, 1800, .inl f3))]) hS => ?_)
  refine lv_aload_n hx hb dX11_addBytes_35 rfl (lv_at hl 1 rfl) ?_
  refine lv_dup hx hb dX11_addBytes_36 rfl ?_
  refine g_get F hK hP 0 rfl clX11 1 (by decide) flX11_13 rfl dX11_addBytes_37 ?_
  refine lv_iconst (v := 1) hx hb dX11_addBytes_40 (by decide) ?_
  refine lv_iadd hx hb dX11_addBytes_41 ?_
  refine cst_i (y := 13) (by decide +kernel) ?_
  refine g_put (w' := [(x, .inr (11, [.ref x_0, .int 13, .ref sp, .ref stm, .ref pl, .ref sk, .ref se, .ref ch, .int 0, .int (-1), .long 1, .ref x_11, .int 0, .ref x_13])), (x_0, .inl (G.2.1, 1800, .inl f3))]) F hK hP hD hS 0 rfl clX11 1 (by decide) flX11_13 rfl rfl rfl (Nat.le_of_ble_eq_true rfl) dX11_addBytes_42 rfl (fun H locs hP hD hS => ?_)
  refine lv_iinc (v := 16) (lv' := [(2, .int 16), (0, .ref x), (1, .int a)]) hx hb dX11_addBytes_45 hl (k := 0) rfl (by decide +kernel) (by decide) rfl (fun ls hl => ?_)
  refine lv_goto (tgt := 3) hx hb dX11_addBytes_48 (by decide) ?_
  refine lv_iload_n hx hb dX11_addBytes_3 rfl (lv_at hl 0 rfl) ?_
  refine lv_if_lt (tgt := 51) hx hb dX11_addBytes_4 (by decide) (fun h_ => absurd h_ (by decide +kernel)) (fun _ => ?_)
  refine lv_aload_n hx hb dX11_addBytes_7 rfl (lv_at hl 1 rfl) ?_
  refine g_get F hK hP 0 rfl clX11 1 (by decide) flX11_13 rfl dX11_addBytes_8 ?_
  refine lv_aload_n hx hb dX11_addBytes_11 rfl (lv_at hl 1 rfl) ?_
  refine g_get F hK hP 0 rfl clX11 0 (by decide) flX11_9 rfl dX11_addBytes_12 ?_
  refine g_ialen (v := 1800) F hK hP 1 rfl rfl dX11_addBytes_15 ?_
  refine lv_icmp_ge (tgt := 51) hx hb dX11_addBytes_16 (by decide) (fun h_ => absurd h_ (by decide +kernel)) (fun _ => ?_)
  refine lv_aload_n hx hb dX11_addBytes_19 rfl (lv_at hl 1 rfl) ?_
  refine g_get F hK hP 0 rfl clX11 0 (by decide) flX11_9 rfl dX11_addBytes_20 ?_
  refine lv_aload_n hx hb dX11_addBytes_23 rfl (lv_at hl 1 rfl) ?_
  refine g_get F hK hP 0 rfl clX11 1 (by decide) flX11_13 rfl dX11_addBytes_24 ?_
  refine lv_iload_n hx hb dX11_addBytes_27 rfl (lv_at hl 2 rfl) ?_
  refine lv_iload_n hx hb dX11_addBytes_28 rfl (lv_at hl 0 rfl) ?_
  refine lv_ishr hx hb dX11_addBytes_29 ?_
  refine lv_topi (fun x4 ex4 => ?_)
  refine lv_sipush (v := 255) hx hb dX11_addBytes_30 (by decide) ?_
  refine lv_iand hx hb dX11_addBytes_33 ?_
  refine lv_topi (fun x5 ex5 => ?_)
  refine g_iast F hK hP hD hS 1 rfl (vin (by decide +kernel)) dX11_addBytes_34 (fun f_ => [(x, .inr (11, [.ref x_0, .int 13, .ref sp, .ref stm, .ref pl, .ref sk, .ref se, .ref ch, .int 0, .int (-1), .long 1, .ref x_11, .int 0, .ref x_13])), (x_0, .inl (G.2.1, 1800, .inl f_))]) (fun _ => rfl) (fun f6 H locs ef6 (hP : va_P G.1 vwCl [(x, .inr (11, [.ref x_0, .int 13, .ref sp, .ref stm, .ref pl, .ref sk, .ref se, .ref ch, .int 0, .int (-1), .long 1, .ref x_11, .int 0, .ref x_13])), (x_0, .inl (G.2.1, 1800, .inl f6))] H) (hD : va_D A [(x, .inr (11, [.ref x_0, .int 13, .ref sp, .ref stm, .ref pl, .ref sk, .ref se, .ref ch, .int 0, .int (-1), .long 1, .ref x_11, .int 0, .ref x_13])), (x_0, .inl (G.2.1, 1800, .inl f6))]) hS => ?_)
  refine lv_aload_n hx hb dX11_addBytes_35 rfl (lv_at hl 1 rfl) ?_
  refine lv_dup hx hb dX11_addBytes_36 rfl ?_
  refine g_get F hK hP 0 rfl clX11 1 (by decide) flX11_13 rfl dX11_addBytes_37 ?_
  refine lv_iconst (v := 1) hx hb dX11_addBytes_40 (by decide) ?_
  refine lv_iadd hx hb dX11_addBytes_41 ?_
  refine cst_i (y := 14) (by decide +kernel) ?_
  refine g_put (w' := [(x, .inr (11, [.ref x_0, .int 14, .ref sp, .ref stm, .ref pl, .ref sk, .ref se, .ref ch, .int 0, .int (-1), .long 1, .ref x_11, .int 0, .ref x_13])), (x_0, .inl (G.2.1, 1800, .inl f6))]) F hK hP hD hS 0 rfl clX11 1 (by decide) flX11_13 rfl rfl rfl (Nat.le_of_ble_eq_true rfl) dX11_addBytes_42 rfl (fun H locs hP hD hS => ?_)
  refine lv_iinc (v := 8) (lv' := [(2, .int 8), (0, .ref x), (1, .int a)]) hx hb dX11_addBytes_45 hl (k := 0) rfl (by decide +kernel) (by decide) rfl (fun ls hl => ?_)
  refine lv_goto (tgt := 3) hx hb dX11_addBytes_48 (by decide) ?_
  refine lv_iload_n hx hb dX11_addBytes_3 rfl (lv_at hl 0 rfl) ?_
  refine lv_if_lt (tgt := 51) hx hb dX11_addBytes_4 (by decide) (fun h_ => absurd h_ (by decide +kernel)) (fun _ => ?_)
  refine lv_aload_n hx hb dX11_addBytes_7 rfl (lv_at hl 1 rfl) ?_
  refine g_get F hK hP 0 rfl clX11 1 (by decide) flX11_13 rfl dX11_addBytes_8 ?_
  refine lv_aload_n hx hb dX11_addBytes_11 rfl (lv_at hl 1 rfl) ?_
  refine g_get F hK hP 0 rfl clX11 0 (by decide) flX11_9 rfl dX11_addBytes_12 ?_
  refine g_ialen (v := 1800) F hK hP 1 rfl rfl dX11_addBytes_15 ?_
  refine lv_icmp_ge (tgt := 51) hx hb dX11_addBytes_16 (by decide) (fun h_ => absurd h_ (by decide +kernel)) (fun _ => ?_)
  refine lv_aload_n hx hb dX11_addBytes_19 rfl (lv_at hl 1 rfl) ?_
  refine g_get F hK hP 0 rfl clX11 0 (by decide) flX11_9 rfl dX11_addBytes_20 ?_
  refine lv_aload_n hx hb dX11_addBytes_23 rfl (lv_at hl 1 rfl) ?_
  refine g_get F hK hP 0 rfl clX11 1 (by decide) flX11_13 rfl dX11_addBytes_24 ?_
  refine lv_iload_n hx hb dX11_addBytes_27 rfl (lv_at hl 2 rfl) ?_
  refine lv_iload_n hx hb dX11_addBytes_28 rfl (lv_at hl 0 rfl) ?_
  refine lv_ishr hx hb dX11_addBytes_29 ?_
  refine lv_topi (fun x7 ex7 => ?_)
  refine lv_sipush (v := 255) hx hb dX11_addBytes_30 (by decide) ?_
  refine lv_iand hx hb dX11_addBytes_33 ?_
  refine lv_topi (fun x8 ex8 => ?_)
  refine g_iast F hK hP hD hS 1 rfl (vin (by decide +kernel)) dX11_addBytes_34 (fun f_ => [(x, .inr (11, [.ref x_0, .int 14, .ref sp, .ref stm, .ref pl, .ref sk, .ref se, .ref ch, .int 0, .int (-1), .long 1, .ref x_11, .int 0, .ref x_13])), (x_0, .inl (G.2.1, 1800, .inl f_))]) (fun _ => rfl) (fun f9 H locs ef9 (hP : va_P G.1 vwCl [(x, .inr (11, [.ref x_0, .int 14, .ref sp, .ref stm, .ref pl, .ref sk, .ref se, .ref ch, .int 0, .int (-1), .long 1, .ref x_11, .int 0, .ref x_13])), (x_0, .inl (G.2.1, 1800, .inl f9))] H) (hD : va_D A [(x, .inr (11, [.ref x_0, .int 14, .ref sp, .ref stm, .ref pl, .ref sk, .ref se, .ref ch, .int 0, .int (-1), .long 1, .ref x_11, .int 0, .ref x_13])), (x_0, .inl (G.2.1, 1800, .inl f9))]) hS => ?_)
  refine lv_aload_n hx hb dX11_addBytes_35 rfl (lv_at hl 1 rfl) ?_
  refine lv_dup hx hb dX11_addBytes_36 rfl ?_
  refine g_get F hK hP 0 rfl clX11 1 (by decide) flX11_13 rfl dX11_addBytes_37 ?_
  refine lv_iconst (v := 1) hx hb dX11_addBytes_40 (by decide) ?_
  refine lv_iadd hx hb dX11_addBytes_41 ?_
  refine cst_i (y := 15) (by decide +kernel) ?_
  refine g_put (w' := [(x, .inr (11, [.ref x_0, .int 15, .ref sp, .ref stm, .ref pl, .ref sk, .ref se, .ref ch, .int 0, .int (-1), .long 1, .ref x_11, .int 0, .ref x_13])), (x_0, .inl (G.2.1, 1800, .inl f9))]) F hK hP hD hS 0 rfl clX11 1 (by decide) flX11_13 rfl rfl rfl (Nat.le_of_ble_eq_true rfl) dX11_addBytes_42 rfl (fun H locs hP hD hS => ?_)
  refine lv_iinc (v := 0) (lv' := [(2, .int 0), (0, .ref x), (1, .int a)]) hx hb dX11_addBytes_45 hl (k := 0) rfl (by decide +kernel) (by decide) rfl (fun ls hl => ?_)
  refine lv_goto (tgt := 3) hx hb dX11_addBytes_48 (by decide) ?_
  refine lv_iload_n hx hb dX11_addBytes_3 rfl (lv_at hl 0 rfl) ?_
  refine lv_if_lt (tgt := 51) hx hb dX11_addBytes_4 (by decide) (fun h_ => absurd h_ (by decide +kernel)) (fun _ => ?_)
  refine lv_aload_n hx hb dX11_addBytes_7 rfl (lv_at hl 1 rfl) ?_
  refine g_get F hK hP 0 rfl clX11 1 (by decide) flX11_13 rfl dX11_addBytes_8 ?_
  refine lv_aload_n hx hb dX11_addBytes_11 rfl (lv_at hl 1 rfl) ?_
  refine g_get F hK hP 0 rfl clX11 0 (by decide) flX11_9 rfl dX11_addBytes_12 ?_
  refine g_ialen (v := 1800) F hK hP 1 rfl rfl dX11_addBytes_15 ?_
  refine lv_icmp_ge (tgt := 51) hx hb dX11_addBytes_16 (by decide) (fun h_ => absurd h_ (by decide +kernel)) (fun _ => ?_)
  refine lv_aload_n hx hb dX11_addBytes_19 rfl (lv_at hl 1 rfl) ?_
  refine g_get F hK hP 0 rfl clX11 0 (by decide) flX11_9 rfl dX11_addBytes_20 ?_
  refine lv_aload_n hx hb dX11_addBytes_23 rfl (lv_at hl 1 rfl) ?_
  refine g_get F hK hP 0 rfl clX11 1 (by decide) flX11_13 rfl dX11_addBytes_24 ?_
  refine lv_iload_n hx hb dX11_addBytes_27 rfl (lv_at hl 2 rfl) ?_
  refine lv_iload_n hx hb dX11_addBytes_28 rfl (lv_at hl 0 rfl) ?_
  refine lv_ishr hx hb dX11_addBytes_29 ?_
  refine lv_topi (fun x10 ex10 => ?_)
  refine lv_sipush (v := 255) hx hb dX11_addBytes_30 (by decide) ?_
  refine lv_iand hx hb dX11_addBytes_33 ?_
  refine lv_topi (fun x11 ex11 => ?_)
  refine g_iast F hK hP hD hS 1 rfl (vin (by decide +kernel)) dX11_addBytes_34 (fun f_ => [(x, .inr (11, [.ref x_0, .int 15, .ref sp, .ref stm, .ref pl, .ref sk, .ref se, .ref ch, .int 0, .int (-1), .long 1, .ref x_11, .int 0, .ref x_13])), (x_0, .inl (G.2.1, 1800, .inl f_))]) (fun _ => rfl) (fun f12 H locs ef12 (hP : va_P G.1 vwCl [(x, .inr (11, [.ref x_0, .int 15, .ref sp, .ref stm, .ref pl, .ref sk, .ref se, .ref ch, .int 0, .int (-1), .long 1, .ref x_11, .int 0, .ref x_13])), (x_0, .inl (G.2.1, 1800, .inl f12))] H) (hD : va_D A [(x, .inr (11, [.ref x_0, .int 15, .ref sp, .ref stm, .ref pl, .ref sk, .ref se, .ref ch, .int 0, .int (-1), .long 1, .ref x_11, .int 0, .ref x_13])), (x_0, .inl (G.2.1, 1800, .inl f12))]) hS => ?_)
  refine lv_aload_n hx hb dX11_addBytes_35 rfl (lv_at hl 1 rfl) ?_
  refine lv_dup hx hb dX11_addBytes_36 rfl ?_
  refine g_get F hK hP 0 rfl clX11 1 (by decide) flX11_13 rfl dX11_addBytes_37 ?_
  refine lv_iconst (v := 1) hx hb dX11_addBytes_40 (by decide) ?_
  refine lv_iadd hx hb dX11_addBytes_41 ?_
  refine cst_i (y := 16) (by decide +kernel) ?_
  refine g_put (w' := [(x, .inr (11, [.ref x_0, .int 16, .ref sp, .ref stm, .ref pl, .ref sk, .ref se, .ref ch, .int 0, .int (-1), .long 1, .ref x_11, .int 0, .ref x_13])), (x_0, .inl (G.2.1, 1800, .inl f12))]) F hK hP hD hS 0 rfl clX11 1 (by decide) flX11_13 rfl rfl rfl (Nat.le_of_ble_eq_true rfl) dX11_addBytes_42 rfl (fun H locs hP hD hS => ?_)
  refine lv_iinc (v := (-8)) (lv' := [(2, .int (-8)), (0, .ref x), (1, .int a)]) hx hb dX11_addBytes_45 hl (k := 0) rfl (by decide +kernel) (by decide) rfl (fun ls hl => ?_)
  refine lv_goto (tgt := 3) hx hb dX11_addBytes_48 (by decide) ?_
  refine lv_iload_n hx hb dX11_addBytes_3 rfl (lv_at hl 0 rfl) ?_
  refine lv_if_lt (tgt := 51) hx hb dX11_addBytes_4 (by decide) (fun _ => ?_) (fun h_ => absurd (by decide +kernel) h_)
  exact r_v F hr hlk hP hD hS f12 [0, 1] rfl rfl trivial dX11_addBytes_51 (Nat.le_of_ble_eq_true rfl) (Nat.le_of_ble_eq_true rfl)
set_option maxHeartbeats 4000000 in
set_option maxRecDepth 100000 in
theorem k_X11_addBytes_16 (l : Launch) (G : Gx) (x : Nat) (a : Int32) (x_0 : Nat) (sp : Nat) (stm : Nat) (pl : Nat) (sk : Nat) (se : Nat) (ch : Nat) (x_11 : Nat) (x_13 : Nat) (f : Nat → Int32)  : CtV (S := Nat → Int32) l yX11_addBytes cX11_addBytes 3 none (rmD 1 0 0) G [.ref x, .int a] [(x, .inr (11, [.ref x_0, .int 16, .ref sp, .ref stm, .ref pl, .ref sk, .ref se, .ref ch, .int 0, .int (-1), .long 1, .ref x_11, .int 0, .ref x_13])), (x_0, .inl (G.2.1, 1800, .inl f))] (fun _ => True) (fun u => [(x, .inr (11, [.ref x_0, .int 20, .ref sp, .ref stm, .ref pl, .ref sk, .ref se, .ref ch, .int 0, .int (-1), .long 1, .ref x_11, .int 0, .ref x_13])), (x_0, .inl (G.2.1, 1800, .inl u))]) := by
  refine ctV_of (own := RX11) (by decide +kernel) rfl (Nat.le_of_ble_eq_true rfl) ?_
  intro p e s m below meth c A ls F hr hlk hnm hK hP hD hA hS hl
  have hx := F.1
  have hb := F.2.1
  have hown := F.2.2.2.1
  have hl : lv_has ls 3 [(0, .ref x), (1, .int a)] := hl
  refine lv_bipush (v := 24) hx hb dX11_addBytes_0 (by decide) ?_
  refine lv_istore_n (lv' := [(2, .int 24), (0, .ref x), (1, .int a)]) hx hb dX11_addBytes_2 rfl hl (by decide) rfl (fun ls hl => ?_)
  refine lv_iload_n hx hb dX11_addBytes_3 rfl (lv_at hl 0 rfl) ?_
  refine lv_if_lt (tgt := 51) hx hb dX11_addBytes_4 (by decide) (fun h_ => absurd h_ (by decide +kernel)) (fun _ => ?_)
  refine lv_aload_n hx hb dX11_addBytes_7 rfl (lv_at hl 1 rfl) ?_
  refine g_get F hK hP 0 rfl clX11 1 (by decide) flX11_13 rfl dX11_addBytes_8 ?_
  refine lv_aload_n hx hb dX11_addBytes_11 rfl (lv_at hl 1 rfl) ?_
  refine g_get F hK hP 0 rfl clX11 0 (by decide) flX11_9 rfl dX11_addBytes_12 ?_
  refine g_ialen (v := 1800) F hK hP 1 rfl rfl dX11_addBytes_15 ?_
  refine lv_icmp_ge (tgt := 51) hx hb dX11_addBytes_16 (by decide) (fun h_ => absurd h_ (by decide +kernel)) (fun _ => ?_)
  refine lv_aload_n hx hb dX11_addBytes_19 rfl (lv_at hl 1 rfl) ?_
  refine g_get F hK hP 0 rfl clX11 0 (by decide) flX11_9 rfl dX11_addBytes_20 ?_
  refine lv_aload_n hx hb dX11_addBytes_23 rfl (lv_at hl 1 rfl) ?_
  refine g_get F hK hP 0 rfl clX11 1 (by decide) flX11_13 rfl dX11_addBytes_24 ?_
  refine lv_iload_n hx hb dX11_addBytes_27 rfl (lv_at hl 2 rfl) ?_
  refine lv_iload_n hx hb dX11_addBytes_28 rfl (lv_at hl 0 rfl) ?_
  refine lv_ishr hx hb dX11_addBytes_29 ?_
  refine lv_topi (fun x1 ex1 => ?_)
  refine lv_sipush (v := 255) hx hb dX11_addBytes_30 (by decide) ?_
  refine lv_iand hx hb dX11_addBytes_33 ?_
  refine lv_topi (fun x2 ex2 => ?_)
  refine g_iast F hK hP hD hS 1 rfl (vin (by decide +kernel)) dX11_addBytes_34 (fun f_ => [(x, .inr (11, [.ref x_0, .int 16, .ref sp, .ref stm, .ref pl, .ref sk, .ref se, .ref ch, .int 0, .int (-1), .long 1, .ref x_11, .int 0, .ref x_13])), (x_0, .inl (G.2.1, 1800, .inl f_))]) (fun _ => rfl) (fun f3 H locs ef3 (hP : va_P G.1 vwCl [(x, .inr (11, [.ref x_0, .int 16, .ref sp, .ref stm, .ref pl, .ref sk, .ref se, .ref ch, .int 0, .int (-1), .long 1, .ref x_11, .int 0, .ref x_13])), (x_0, .inl (G.2.1, 1800, .inl f3))] H) (hD : va_D A [(x, .inr (11, [.ref x_0, .int 16, .ref sp, .ref stm, .ref pl, .ref sk, .ref se, .ref ch, .int 0, .int (-1), .long 1, .ref x_11, .int 0, .ref x_13])), (x_0, .inl (G.2.1, 1800, .inl f3))]) hS => ?_)
  refine lv_aload_n hx hb dX11_addBytes_35 rfl (lv_at hl 1 rfl) ?_
  refine lv_dup hx hb dX11_addBytes_36 rfl ?_
  refine g_get F hK hP 0 rfl clX11 1 (by decide) flX11_13 rfl dX11_addBytes_37 ?_
  refine lv_iconst (v := 1) hx hb dX11_addBytes_40 (by decide) ?_
  refine lv_iadd hx hb dX11_addBytes_41 ?_
  refine cst_i (y := 17) (by decide +kernel) ?_
  refine g_put (w' := [(x, .inr (11, [.ref x_0, .int 17, .ref sp, .ref stm, .ref pl, .ref sk, .ref se, .ref ch, .int 0, .int (-1), .long 1, .ref x_11, .int 0, .ref x_13])), (x_0, .inl (G.2.1, 1800, .inl f3))]) F hK hP hD hS 0 rfl clX11 1 (by decide) flX11_13 rfl rfl rfl (Nat.le_of_ble_eq_true rfl) dX11_addBytes_42 rfl (fun H locs hP hD hS => ?_)
  refine lv_iinc (v := 16) (lv' := [(2, .int 16), (0, .ref x), (1, .int a)]) hx hb dX11_addBytes_45 hl (k := 0) rfl (by decide +kernel) (by decide) rfl (fun ls hl => ?_)
  refine lv_goto (tgt := 3) hx hb dX11_addBytes_48 (by decide) ?_
  refine lv_iload_n hx hb dX11_addBytes_3 rfl (lv_at hl 0 rfl) ?_
  refine lv_if_lt (tgt := 51) hx hb dX11_addBytes_4 (by decide) (fun h_ => absurd h_ (by decide +kernel)) (fun _ => ?_)
  refine lv_aload_n hx hb dX11_addBytes_7 rfl (lv_at hl 1 rfl) ?_
  refine g_get F hK hP 0 rfl clX11 1 (by decide) flX11_13 rfl dX11_addBytes_8 ?_
  refine lv_aload_n hx hb dX11_addBytes_11 rfl (lv_at hl 1 rfl) ?_
  refine g_get F hK hP 0 rfl clX11 0 (by decide) flX11_9 rfl dX11_addBytes_12 ?_
  refine g_ialen (v := 1800) F hK hP 1 rfl rfl dX11_addBytes_15 ?_
  refine lv_icmp_ge (tgt := 51) hx hb dX11_addBytes_16 (by decide) (fun h_ => absurd h_ (by decide +kernel)) (fun _ => ?_)
  refine lv_aload_n hx hb dX11_addBytes_19 rfl (lv_at hl 1 rfl) ?_
  refine g_get F hK hP 0 rfl clX11 0 (by decide) flX11_9 rfl dX11_addBytes_20 ?_
  refine lv_aload_n hx hb dX11_addBytes_23 rfl (lv_at hl 1 rfl) ?_
  refine g_get F hK hP 0 rfl clX11 1 (by decide) flX11_13 rfl dX11_addBytes_24 ?_
  refine lv_iload_n hx hb dX11_addBytes_27 rfl (lv_at hl 2 rfl) ?_
  refine lv_iload_n hx hb dX11_addBytes_28 rfl (lv_at hl 0 rfl) ?_
  refine lv_ishr hx hb dX11_addBytes_29 ?_
  refine lv_topi (fun x4 ex4 => ?_)
  refine lv_sipush (v := 255) hx hb dX11_addBytes_30 (by decide) ?_
  refine lv_iand hx hb dX11_addBytes_33 ?_
  refine lv_topi (fun x5 ex5 => ?_)
  refine g_iast F hK hP hD hS 1 rfl (vin (by decide +kernel)) dX11_addBytes_34 (fun f_ => [(x, .inr (11, [.ref x_0, .int 17, .ref sp, .ref stm, .ref pl, .ref sk, .ref se, .ref ch, .int 0, .int (-1), .long 1, .ref x_11, .int 0, .ref x_13])), (x_0, .inl (G.2.1, 1800, .inl f_))]) (fun _ => rfl) (fun f6 H locs ef6 (hP : va_P G.1 vwCl [(x, .inr (11, [.ref x_0, .int 17, .ref sp, .ref stm, .ref pl, .ref sk, .ref se, .ref ch, .int 0, .int (-1), .long 1, .ref x_11, .int 0, .ref x_13])), (x_0, .inl (G.2.1, 1800, .inl f6))] H) (hD : va_D A [(x, .inr (11, [.ref x_0, .int 17, .ref sp, .ref stm, .ref pl, .ref sk, .ref se, .ref ch, .int 0, .int (-1), .long 1, .ref x_11, .int 0, .ref x_13])), (x_0, .inl (G.2.1, 1800, .inl f6))]) hS => ?_)
  refine lv_aload_n hx hb dX11_addBytes_35 rfl (lv_at hl 1 rfl) ?_
  refine lv_dup hx hb dX11_addBytes_36 rfl ?_
  refine g_get F hK hP 0 rfl clX11 1 (by decide) flX11_13 rfl dX11_addBytes_37 ?_
  refine lv_iconst (v := 1) hx hb dX11_addBytes_40 (by decide) ?_
  refine lv_iadd hx hb dX11_addBytes_41 ?_
  refine cst_i (y := 18) (by decide +kernel) ?_
  refine g_put (w' := [(x, .inr (11, [.ref x_0, .int 18, .ref sp, .ref stm, .ref pl, .ref sk, .ref se, .ref ch, .int 0, .int (-1), .long 1, .ref x_11, .int 0, .ref x_13])), (x_0, .inl (G.2.1, 1800, .inl f6))]) F hK hP hD hS 0 rfl clX11 1 (by decide) flX11_13 rfl rfl rfl (Nat.le_of_ble_eq_true rfl) dX11_addBytes_42 rfl (fun H locs hP hD hS => ?_)
  refine lv_iinc (v := 8) (lv' := [(2, .int 8), (0, .ref x), (1, .int a)]) hx hb dX11_addBytes_45 hl (k := 0) rfl (by decide +kernel) (by decide) rfl (fun ls hl => ?_)
  refine lv_goto (tgt := 3) hx hb dX11_addBytes_48 (by decide) ?_
  refine lv_iload_n hx hb dX11_addBytes_3 rfl (lv_at hl 0 rfl) ?_
  refine lv_if_lt (tgt := 51) hx hb dX11_addBytes_4 (by decide) (fun h_ => absurd h_ (by decide +kernel)) (fun _ => ?_)
  refine lv_aload_n hx hb dX11_addBytes_7 rfl (lv_at hl 1 rfl) ?_
  refine g_get F hK hP 0 rfl clX11 1 (by decide) flX11_13 rfl dX11_addBytes_8 ?_
  refine lv_aload_n hx hb dX11_addBytes_11 rfl (lv_at hl 1 rfl) ?_
  refine g_get F hK hP 0 rfl clX11 0 (by decide) flX11_9 rfl dX11_addBytes_12 ?_
  refine g_ialen (v := 1800) F hK hP 1 rfl rfl dX11_addBytes_15 ?_
  refine lv_icmp_ge (tgt := 51) hx hb dX11_addBytes_16 (by decide) (fun h_ => absurd h_ (by decide +kernel)) (fun _ => ?_)
  refine lv_aload_n hx hb dX11_addBytes_19 rfl (lv_at hl 1 rfl) ?_
  refine g_get F hK hP 0 rfl clX11 0 (by decide) flX11_9 rfl dX11_addBytes_20 ?_
  refine lv_aload_n hx hb dX11_addBytes_23 rfl (lv_at hl 1 rfl) ?_
  refine g_get F hK hP 0 rfl clX11 1 (by decide) flX11_13 rfl dX11_addBytes_24 ?_
  refine lv_iload_n hx hb dX11_addBytes_27 rfl (lv_at hl 2 rfl) ?_
  refine lv_iload_n hx hb dX11_addBytes_28 rfl (lv_at hl 0 rfl) ?_
  refine lv_ishr hx hb dX11_addBytes_29 ?_
  refine lv_topi (fun x7 ex7 => ?_)
  refine lv_sipush (v := 255) hx hb dX11_addBytes_30 (by decide) ?_
  refine lv_iand hx hb dX11_addBytes_33 ?_
  refine lv_topi (fun x8 ex8 => ?_)
  refine g_iast F hK hP hD hS 1 rfl (vin (by decide +kernel)) dX11_addBytes_34 (fun f_ => [(x, .inr (11, [.ref x_0, .int 18, .ref sp, .ref stm, .ref pl, .ref sk, .ref se, .ref ch, .int 0, .int (-1), .long 1, .ref x_11, .int 0, .ref x_13])), (x_0, .inl (G.2.1, 1800, .inl f_))]) (fun _ => rfl) (fun f9 H locs ef9 (hP : va_P G.1 vwCl [(x, .inr (11, [.ref x_0, .int 18, .ref sp, .ref stm, .ref pl, .ref sk, .ref se, .ref ch, .int 0, .int (-1), .long 1, .ref x_11, .int 0, .ref x_13])), (x_0, .inl (G.2.1, 1800, .inl f9))] H) (hD : va_D A [(x, .inr (11, [.ref x_0, .int 18, .ref sp, .ref stm, .ref pl, .ref sk, .ref se, .ref ch, .int 0, .int (-1), .long 1, .ref x_11, .int 0, .ref x_13])), (x_0, .inl (G.2.1, 1800, .inl f9))]) hS => ?_)
  refine lv_aload_n hx hb dX11_addBytes_35 rfl (lv_at hl 1 rfl) ?_
  refine lv_dup hx hb dX11_addBytes_36 rfl ?_
  refine g_get F hK hP 0 rfl clX11 1 (by decide) flX11_13 rfl dX11_addBytes_37 ?_
  refine lv_iconst (v := 1) hx hb dX11_addBytes_40 (by decide) ?_
  refine lv_iadd hx hb dX11_addBytes_41 ?_
  refine cst_i (y := 19) (by decide +kernel) ?_
  refine g_put (w' := [(x, .inr (11, [.ref x_0, .int 19, .ref sp, .ref stm, .ref pl, .ref sk, .ref se, .ref ch, .int 0, .int (-1), .long 1, .ref x_11, .int 0, .ref x_13])), (x_0, .inl (G.2.1, 1800, .inl f9))]) F hK hP hD hS 0 rfl clX11 1 (by decide) flX11_13 rfl rfl rfl (Nat.le_of_ble_eq_true rfl) dX11_addBytes_42 rfl (fun H locs hP hD hS => ?_)
  refine lv_iinc (v := 0) (lv' := [(2, .int 0), (0, .ref x), (1, .int a)]) hx hb dX11_addBytes_45 hl (k := 0) rfl (by decide +kernel) (by decide) rfl (fun ls hl => ?_)
  refine lv_goto (tgt := 3) hx hb dX11_addBytes_48 (by decide) ?_
  refine lv_iload_n hx hb dX11_addBytes_3 rfl (lv_at hl 0 rfl) ?_
  refine lv_if_lt (tgt := 51) hx hb dX11_addBytes_4 (by decide) (fun h_ => absurd h_ (by decide +kernel)) (fun _ => ?_)
  refine lv_aload_n hx hb dX11_addBytes_7 rfl (lv_at hl 1 rfl) ?_
  refine g_get F hK hP 0 rfl clX11 1 (by decide) flX11_13 rfl dX11_addBytes_8 ?_
  refine lv_aload_n hx hb dX11_addBytes_11 rfl (lv_at hl 1 rfl) ?_
  refine g_get F hK hP 0 rfl clX11 0 (by decide) flX11_9 rfl dX11_addBytes_12 ?_
  refine g_ialen (v := 1800) F hK hP 1 rfl rfl dX11_addBytes_15 ?_
  refine lv_icmp_ge (tgt := 51) hx hb dX11_addBytes_16 (by decide) (fun h_ => absurd h_ (by decide +kernel)) (fun _ => ?_)
  refine lv_aload_n hx hb dX11_addBytes_19 rfl (lv_at hl 1 rfl) ?_
  refine g_get F hK hP 0 rfl clX11 0 (by decide) flX11_9 rfl dX11_addBytes_20 ?_
  refine lv_aload_n hx hb dX11_addBytes_23 rfl (lv_at hl 1 rfl) ?_
  refine g_get F hK hP 0 rfl clX11 1 (by decide) flX11_13 rfl dX11_addBytes_24 ?_
  refine lv_iload_n hx hb dX11_addBytes_27 rfl (lv_at hl 2 rfl) ?_
  refine lv_iload_n hx hb dX11_addBytes_28 rfl (lv_at hl 0 rfl) ?_
  refine lv_ishr hx hb dX11_addBytes_29 ?_
  refine lv_topi (fun x10 ex10 => ?_)
  refine lv_sipush (v := 255) hx hb dX11_addBytes_30 (by decide) ?_
  refine lv_iand hx hb dX11_addBytes_33 ?_
  refine lv_topi (fun x11 ex11 => ?_)
  refine g_iast F hK hP hD hS 1 rfl (vin (by decide +kernel)) dX11_addBytes_34 (fun f_ => [(x, .inr (11, [.ref x_0, .int 19, .ref sp, .ref stm, .ref pl, .ref sk, .ref se, .ref ch, .int 0, .int (-1), .long 1, .ref x_11, .int 0, .ref x_13])), (x_0, .inl (G.2.1, 1800, .inl f_))]) (fun _ => rfl) (fun f12 H locs ef12 (hP : va_P G.1 vwCl [(x, .inr (11, [.ref x_0, .int 19, .ref sp, .ref stm, .ref pl, .ref sk, .ref se, .ref ch, .int 0, .int (-1), .long 1, .ref x_11, .int 0, .ref x_13])), (x_0, .inl (G.2.1, 1800, .inl f12))] H) (hD : va_D A [(x, .inr (11, [.ref x_0, .int 19, .ref sp, .ref stm, .ref pl, .ref sk, .ref se, .ref ch, .int 0, .int (-1), .long 1, .ref x_11, .int 0, .ref x_13])), (x_0, .inl (G.2.1, 1800, .inl f12))]) hS => ?_)
  refine lv_aload_n hx hb dX11_addBytes_35 rfl (lv_at hl 1 rfl) ?_
  refine lv_dup hx hb dX11_addBytes_36 rfl ?_
  refine g_get F hK hP 0 rfl clX11 1 (by decide) flX11_13 rfl dX11_addBytes_37 ?_
  refine lv_iconst (v := 1) hx hb dX11_addBytes_40 (by decide) ?_
  refine lv_iadd hx hb dX11_addBytes_41 ?_
  refine cst_i (y := 20) (by decide +kernel) ?_
  refine g_put (w' := [(x, .inr (11, [.ref x_0, .int 20, .ref sp, .ref stm, .ref pl, .ref sk, .ref se, .ref ch, .int 0, .int (-1), .long 1, .ref x_11, .int 0, .ref x_13])), (x_0, .inl (G.2.1, 1800, .inl f12))]) F hK hP hD hS 0 rfl clX11 1 (by decide) flX11_13 rfl rfl rfl (Nat.le_of_ble_eq_true rfl) dX11_addBytes_42 rfl (fun H locs hP hD hS => ?_)
  refine lv_iinc (v := (-8)) (lv' := [(2, .int (-8)), (0, .ref x), (1, .int a)]) hx hb dX11_addBytes_45 hl (k := 0) rfl (by decide +kernel) (by decide) rfl (fun ls hl => ?_)
  refine lv_goto (tgt := 3) hx hb dX11_addBytes_48 (by decide) ?_
  refine lv_iload_n hx hb dX11_addBytes_3 rfl (lv_at hl 0 rfl) ?_
  refine lv_if_lt (tgt := 51) hx hb dX11_addBytes_4 (by decide) (fun _ => ?_) (fun h_ => absurd (by decide +kernel) h_)
  exact r_v F hr hlk hP hD hS f12 [0, 1] rfl rfl trivial dX11_addBytes_51 (Nat.le_of_ble_eq_true rfl) (Nat.le_of_ble_eq_true rfl)
set_option maxHeartbeats 4000000 in
set_option maxRecDepth 100000 in
theorem k_X11_feed (l : Launch) (G : Gx) (x : Nat) (a1 : Int32) (a2 : Int32) (a3 : Int32) (a4 : Int32) (a5 : Int32) (x_0 : Nat) (sp : Nat) (stm : Nat) (pl : Nat) (sk : Nat) (se : Nat) (ch : Nat) (x_11 : Nat) (x_13 : Nat)  : CtI (S := Unit) l yX11_feed cX11_feed 6 (some .int) (rmD 2 0 0) G [.ref x, .int a1, .int a2, .int a3, .int a4, .int a5] [(x, .inr (11, [.ref x_0, .int 0, .ref sp, .ref stm, .ref pl, .ref sk, .ref se, .ref ch, .int 0, .int (-1), .long 1, .ref x_11, .int 0, .ref x_13])), (x_0, .inl (G.2.1, 1800, .inl (fun _ => 0)))] (fun r _ => r = 20) (fun _ => []) := by
  refine ctI_of (own := RX11) (by decide +kernel) rfl (Nat.le_of_ble_eq_true rfl) ?_
  intro p e s m below meth c A ls F hr hlk hnm hK hP hD hA hS hl
  have hx := F.1
  have hb := F.2.1
  have hown := F.2.2.2.1
  have hl : lv_has ls 6 [(0, .ref x), (1, .int a1), (2, .int a2), (3, .int a3), (4, .int a4), (5, .int a5)] := hl
  refine lv_aload_n hx hb dX11_feed_0 rfl (lv_at hl 0 rfl) ?_
  refine g_get F hK hP 0 rfl clX11 1 (by decide) flX11_13 rfl dX11_feed_1 ?_
  refine lv_bipush (v := 20) hx hb dX11_feed_4 (by decide) ?_
  refine lv_iadd hx hb dX11_feed_6 ?_
  refine cst_i (y := 20) (by decide +kernel) ?_
  refine lv_sipush (v := 1800) hx hb dX11_feed_7 (by decide) ?_
  refine lv_icmp_le (tgt := 19) hx hb dX11_feed_10 (by decide) (fun _ => ?_) (fun h_ => absurd (by decide +kernel) h_)
  refine lv_aload_n hx hb dX11_feed_19 rfl (lv_at hl 0 rfl) ?_
  refine lv_iload_n hx hb dX11_feed_20 rfl (lv_at hl 1 rfl) ?_
  refine cvv (wr := []) (As := [.int a1]) (rest := []) (b := x) (k1 := 0) (s1 := 0) F hK hP hD hS hA (k_X11_addBytes_0 l G x a1 x_0 sp stm pl sk se ch x_11 x_13 (fun _ => 0)) kmV_X11_addBytes mlX11_93 clX11 rfl 0 rfl ⟨(Nat.le_of_ble_eq_true rfl), (Nat.le_of_ble_eq_true rfl)⟩ [0, 1] [] rfl rfl rfl rfl (by decide) hl.1 rfl (Nat.le_of_ble_eq_true rfl) dX11_feed_21 ⟨(Nat.le_of_ble_eq_true rfl), (Nat.le_of_ble_eq_true rfl)⟩ rfl rfl (fun u1 H locs hwr2 (hP : va_P G.1 vwCl [(x, .inr (11, [.ref x_0, .int 4, .ref sp, .ref stm, .ref pl, .ref sk, .ref se, .ref ch, .int 0, .int (-1), .long 1, .ref x_11, .int 0, .ref x_13])), (x_0, .inl (G.2.1, 1800, .inl u1))] H) (hD : va_D A [(x, .inr (11, [.ref x_0, .int 4, .ref sp, .ref stm, .ref pl, .ref sk, .ref se, .ref ch, .int 0, .int (-1), .long 1, .ref x_11, .int 0, .ref x_13])), (x_0, .inl (G.2.1, 1800, .inl u1))]) hS => ?_)
  refine lv_aload_n hx hb dX11_feed_24 rfl (lv_at hl 0 rfl) ?_
  refine lv_iload_n hx hb dX11_feed_25 rfl (lv_at hl 2 rfl) ?_
  refine cvv (wr := []) (As := [.int a2]) (rest := []) (b := x) (k1 := 0) (s1 := 0) F hK hP hD hS hA (k_X11_addBytes_4 l G x a2 x_0 sp stm pl sk se ch x_11 x_13 u1) kmV_X11_addBytes mlX11_93 clX11 rfl 0 rfl ⟨(Nat.le_of_ble_eq_true rfl), (Nat.le_of_ble_eq_true rfl)⟩ [0, 1] [] rfl rfl rfl rfl (by decide) hl.1 rfl (Nat.le_of_ble_eq_true rfl) dX11_feed_26 ⟨(Nat.le_of_ble_eq_true rfl), (Nat.le_of_ble_eq_true rfl)⟩ rfl rfl (fun u3 H locs hwr4 (hP : va_P G.1 vwCl [(x, .inr (11, [.ref x_0, .int 8, .ref sp, .ref stm, .ref pl, .ref sk, .ref se, .ref ch, .int 0, .int (-1), .long 1, .ref x_11, .int 0, .ref x_13])), (x_0, .inl (G.2.1, 1800, .inl u3))] H) (hD : va_D A [(x, .inr (11, [.ref x_0, .int 8, .ref sp, .ref stm, .ref pl, .ref sk, .ref se, .ref ch, .int 0, .int (-1), .long 1, .ref x_11, .int 0, .ref x_13])), (x_0, .inl (G.2.1, 1800, .inl u3))]) hS => ?_)
  refine lv_aload_n hx hb dX11_feed_29 rfl (lv_at hl 0 rfl) ?_
  refine lv_iload_n hx hb dX11_feed_30 rfl (lv_at hl 3 rfl) ?_
  refine cvv (wr := []) (As := [.int a3]) (rest := []) (b := x) (k1 := 0) (s1 := 0) F hK hP hD hS hA (k_X11_addBytes_8 l G x a3 x_0 sp stm pl sk se ch x_11 x_13 u3) kmV_X11_addBytes mlX11_93 clX11 rfl 0 rfl ⟨(Nat.le_of_ble_eq_true rfl), (Nat.le_of_ble_eq_true rfl)⟩ [0, 1] [] rfl rfl rfl rfl (by decide) hl.1 rfl (Nat.le_of_ble_eq_true rfl) dX11_feed_31 ⟨(Nat.le_of_ble_eq_true rfl), (Nat.le_of_ble_eq_true rfl)⟩ rfl rfl (fun u5 H locs hwr6 (hP : va_P G.1 vwCl [(x, .inr (11, [.ref x_0, .int 12, .ref sp, .ref stm, .ref pl, .ref sk, .ref se, .ref ch, .int 0, .int (-1), .long 1, .ref x_11, .int 0, .ref x_13])), (x_0, .inl (G.2.1, 1800, .inl u5))] H) (hD : va_D A [(x, .inr (11, [.ref x_0, .int 12, .ref sp, .ref stm, .ref pl, .ref sk, .ref se, .ref ch, .int 0, .int (-1), .long 1, .ref x_11, .int 0, .ref x_13])), (x_0, .inl (G.2.1, 1800, .inl u5))]) hS => ?_)
  refine lv_aload_n hx hb dX11_feed_34 rfl (lv_at hl 0 rfl) ?_
  refine lv_iload hx hb dX11_feed_35 (lv_at hl 4 rfl) ?_
  refine cvv (wr := []) (As := [.int a4]) (rest := []) (b := x) (k1 := 0) (s1 := 0) F hK hP hD hS hA (k_X11_addBytes_12 l G x a4 x_0 sp stm pl sk se ch x_11 x_13 u5) kmV_X11_addBytes mlX11_93 clX11 rfl 0 rfl ⟨(Nat.le_of_ble_eq_true rfl), (Nat.le_of_ble_eq_true rfl)⟩ [0, 1] [] rfl rfl rfl rfl (by decide) hl.1 rfl (Nat.le_of_ble_eq_true rfl) dX11_feed_37 ⟨(Nat.le_of_ble_eq_true rfl), (Nat.le_of_ble_eq_true rfl)⟩ rfl rfl (fun u7 H locs hwr8 (hP : va_P G.1 vwCl [(x, .inr (11, [.ref x_0, .int 16, .ref sp, .ref stm, .ref pl, .ref sk, .ref se, .ref ch, .int 0, .int (-1), .long 1, .ref x_11, .int 0, .ref x_13])), (x_0, .inl (G.2.1, 1800, .inl u7))] H) (hD : va_D A [(x, .inr (11, [.ref x_0, .int 16, .ref sp, .ref stm, .ref pl, .ref sk, .ref se, .ref ch, .int 0, .int (-1), .long 1, .ref x_11, .int 0, .ref x_13])), (x_0, .inl (G.2.1, 1800, .inl u7))]) hS => ?_)
  refine lv_aload_n hx hb dX11_feed_40 rfl (lv_at hl 0 rfl) ?_
  refine lv_iload hx hb dX11_feed_41 (lv_at hl 5 rfl) ?_
  refine cvv (wr := []) (As := [.int a5]) (rest := []) (b := x) (k1 := 0) (s1 := 0) F hK hP hD hS hA (k_X11_addBytes_16 l G x a5 x_0 sp stm pl sk se ch x_11 x_13 u7) kmV_X11_addBytes mlX11_93 clX11 rfl 0 rfl ⟨(Nat.le_of_ble_eq_true rfl), (Nat.le_of_ble_eq_true rfl)⟩ [0, 1] [] rfl rfl rfl rfl (by decide) hl.1 rfl (Nat.le_of_ble_eq_true rfl) dX11_feed_43 ⟨(Nat.le_of_ble_eq_true rfl), (Nat.le_of_ble_eq_true rfl)⟩ rfl rfl (fun u9 H locs hwr10 (hP : va_P G.1 vwCl [(x, .inr (11, [.ref x_0, .int 20, .ref sp, .ref stm, .ref pl, .ref sk, .ref se, .ref ch, .int 0, .int (-1), .long 1, .ref x_11, .int 0, .ref x_13])), (x_0, .inl (G.2.1, 1800, .inl u9))] H) (hD : va_D A [(x, .inr (11, [.ref x_0, .int 20, .ref sp, .ref stm, .ref pl, .ref sk, .ref se, .ref ch, .int 0, .int (-1), .long 1, .ref x_11, .int 0, .ref x_13])), (x_0, .inl (G.2.1, 1800, .inl u9))]) hS => ?_)
  refine lv_aload_n hx hb dX11_feed_46 rfl (lv_at hl 0 rfl) ?_
  refine g_get F hK hP 0 rfl clX11 1 (by decide) flX11_13 rfl dX11_feed_47 ?_
  exact r_i F hr hlk hP hD hS () [] rfl rfl rfl dX11_feed_50 (Nat.le_of_ble_eq_true rfl) (Nat.le_of_ble_eq_true rfl)
set_option maxHeartbeats 4000000 in
set_option maxRecDepth 100000 in
theorem k_X9_search (l : Launch) (G : Gx) (sk : Nat) (a : Int32) (pl : Nat) (sk_2 : Nat) (sk_3 : Nat) (sk_4 : Nat) (ho : Nat) (pl_1 : Nat) (pl_5 : Nat) (fl : Nat) (pe : Nat) (ru : Nat) (ho_4 : Nat) (ho_5 : Nat) (ho_6 : Nat) (ho_8 : Nat) (ho_9 : Nat) (ho_10 : Nat) (ho_11 : Nat) (ho_12 : Nat) (pe_1 : Nat) (pe_2 : Nat) (pe_3 : Nat) (pe_4 : Nat) (pe_5 : Nat) (pe_6 : Nat) (pe_7 : Nat) (pe_8 : Nat) (pe_9 : Nat) (pe_10 : Nat)  : CtI (S := Unit) l yX9_search cX9_search 5 (some .int) (rmD 5 0 0) G [.ref sk, .int a] [(sk, .inr (9, [.ref pl, .int 0, .ref sk_2, .ref sk_3, .ref sk_4])), (pl, .inr (4, [.ref ho, .ref pl_1, .int 0, .int (-1), .int (-1), .ref pl_5])), (ho, .inr (2, [.ref fl, .ref pe, .ref ru, .int 0, .ref ho_4, .ref ho_5, .ref ho_6, .int 0, .ref ho_8, .ref ho_9, .ref ho_10, .ref ho_11, .ref ho_12, .int 50])), (pe, .inr (3, [.int 0, .ref pe_1, .ref pe_2, .ref pe_3, .ref pe_4, .ref pe_5, .ref pe_6, .ref pe_7, .ref pe_8, .ref pe_9, .ref pe_10])), (sk_4, .inl (G.2.1, 5, .inl (fun _ => 0))), (sk_3, .inl (G.2.1, 12, .inl (fun _ => 0)))] (fun r _ => r = 1) (fun _ => [(sk, .inr (9, [.ref pl, .int 0, .ref sk_2, .ref sk_3, .ref sk_4])), (pl, .inr (4, [.ref ho, .ref pl_1, .int 0, .int (-1), .int (-1), .ref pl_5])), (ho, .inr (2, [.ref fl, .ref pe, .ref ru, .int 0, .ref ho_4, .ref ho_5, .ref ho_6, .int 0, .ref ho_8, .ref ho_9, .ref ho_10, .ref ho_11, .ref ho_12, .int 50])), (pe, .inr (3, [.int 0, .ref pe_1, .ref pe_2, .ref pe_3, .ref pe_4, .ref pe_5, .ref pe_6, .ref pe_7, .ref pe_8, .ref pe_9, .ref pe_10]))]) := by
  refine ctI_of (own := RX9) (by decide +kernel) rfl (Nat.le_of_ble_eq_true rfl) ?_
  intro p e s m below meth c A ls F hr hlk hnm hK hP hD hA hS hl
  have hx := F.1
  have hb := F.2.1
  have hown := F.2.2.2.1
  have hl : lv_has ls 5 [(0, .ref sk), (1, .int a)] := hl
  refine lv_aload_n hx hb dX9_search_0 rfl (lv_at hl 0 rfl) ?_
  refine g_get F hK hP 0 rfl clX9 0 (by decide) flX9_25 rfl dX9_search_1 ?_
  refine g_get F hK hP 1 rfl clX4 0 (by decide) flX9_29 rfl dX9_search_4 ?_
  refine g_get F hK hP 2 rfl clX2 1 (by decide) flX9_35 rfl dX9_search_7 ?_
  refine lv_astore_n (lv' := [(2, .ref pe), (0, .ref sk), (1, .int a)]) hx hb dX9_search_10 rfl hl (by decide) rfl (fun ls hl => ?_)
  refine lv_aload_n hx hb dX9_search_11 rfl (lv_at hl 1 rfl) ?_
  refine lv_iconst (v := 0) hx hb dX9_search_12 (by decide) ?_
  refine g_put (w' := [(sk, .inr (9, [.ref pl, .int 0, .ref sk_2, .ref sk_3, .ref sk_4])), (pl, .inr (4, [.ref ho, .ref pl_1, .int 0, .int (-1), .int (-1), .ref pl_5])), (ho, .inr (2, [.ref fl, .ref pe, .ref ru, .int 0, .ref ho_4, .ref ho_5, .ref ho_6, .int 0, .ref ho_8, .ref ho_9, .ref ho_10, .ref ho_11, .ref ho_12, .int 50])), (pe, .inr (3, [.int 0, .ref pe_1, .ref pe_2, .ref pe_3, .ref pe_4, .ref pe_5, .ref pe_6, .ref pe_7, .ref pe_8, .ref pe_9, .ref pe_10])), (sk_4, .inl (G.2.1, 5, .inl (fun _ => 0))), (sk_3, .inl (G.2.1, 12, .inl (fun _ => 0)))]) F hK hP hD hS 0 rfl clX9 1 (by decide) flX9_9 rfl rfl rfl (Nat.le_of_ble_eq_true rfl) dX9_search_13 rfl (fun H locs hP hD hS => ?_)
  refine lv_aload_n hx hb dX9_search_16 rfl (lv_at hl 1 rfl) ?_
  refine g_get F hK hP 0 rfl clX9 4 (by decide) flX9_22 rfl dX9_search_17 ?_
  refine lv_iconst (v := 0) hx hb dX9_search_20 (by decide) ?_
  refine csv (wr := [(sk, .inr (9, [.ref pl, .int 0, .ref sk_2, .ref sk_3, .ref sk_4])), (pl, .inr (4, [.ref ho, .ref pl_1, .int 0, .int (-1), .int (-1), .ref pl_5])), (ho, .inr (2, [.ref fl, .ref pe, .ref ru, .int 0, .ref ho_4, .ref ho_5, .ref ho_6, .int 0, .ref ho_8, .ref ho_9, .ref ho_10, .ref ho_11, .ref ho_12, .int 50])), (pe, .inr (3, [.int 0, .ref pe_1, .ref pe_2, .ref pe_3, .ref pe_4, .ref pe_5, .ref pe_6, .ref pe_7, .ref pe_8, .ref pe_9, .ref pe_10])), (sk_3, .inl (G.2.1, 12, .inl (fun _ => 0)))]) (As := [.ref sk_4, .int 0]) (rest := []) (k1 := 0) (s1 := 0) F hK hP hD hS hA (k_J7_fill_53178 l G 5 sk_4 0 (fun _ => 0) (by decide)) kmS_J7_fill_53178 mlX9_41 ⟨(Nat.le_of_ble_eq_true rfl), (Nat.le_of_ble_eq_true rfl)⟩ [4] [0, 1, 2, 3, 5] rfl rfl rfl rfl (by decide) hl.1 rfl (Nat.le_of_ble_eq_true rfl) dX9_search_21 ⟨(Nat.le_of_ble_eq_true rfl), (Nat.le_of_ble_eq_true rfl)⟩ rfl rfl (fun u1 H locs hwr2 (hP : va_P G.1 vwCl [(sk, .inr (9, [.ref pl, .int 0, .ref sk_2, .ref sk_3, .ref sk_4])), (pl, .inr (4, [.ref ho, .ref pl_1, .int 0, .int (-1), .int (-1), .ref pl_5])), (ho, .inr (2, [.ref fl, .ref pe, .ref ru, .int 0, .ref ho_4, .ref ho_5, .ref ho_6, .int 0, .ref ho_8, .ref ho_9, .ref ho_10, .ref ho_11, .ref ho_12, .int 50])), (pe, .inr (3, [.int 0, .ref pe_1, .ref pe_2, .ref pe_3, .ref pe_4, .ref pe_5, .ref pe_6, .ref pe_7, .ref pe_8, .ref pe_9, .ref pe_10])), (sk_3, .inl (G.2.1, 12, .inl (fun _ => 0))), (sk_4, .inl (G.2.1, 5, .inl u1))] H) (hD : va_D A [(sk, .inr (9, [.ref pl, .int 0, .ref sk_2, .ref sk_3, .ref sk_4])), (pl, .inr (4, [.ref ho, .ref pl_1, .int 0, .int (-1), .int (-1), .ref pl_5])), (ho, .inr (2, [.ref fl, .ref pe, .ref ru, .int 0, .ref ho_4, .ref ho_5, .ref ho_6, .int 0, .ref ho_8, .ref ho_9, .ref ho_10, .ref ho_11, .ref ho_12, .int 50])), (pe, .inr (3, [.int 0, .ref pe_1, .ref pe_2, .ref pe_3, .ref pe_4, .ref pe_5, .ref pe_6, .ref pe_7, .ref pe_8, .ref pe_9, .ref pe_10])), (sk_3, .inl (G.2.1, 12, .inl (fun _ => 0))), (sk_4, .inl (G.2.1, 5, .inl u1))]) hS => ?_)
  refine lv_aload_n hx hb dX9_search_24 rfl (lv_at hl 1 rfl) ?_
  refine g_get F hK hP 0 rfl clX9 3 (by decide) flX9_19 rfl dX9_search_25 ?_
  refine lv_iconst (v := 0) hx hb dX9_search_28 (by decide) ?_
  refine lv_iconst (v := 0) hx hb dX9_search_29 (by decide) ?_
  refine g_iast F hK hP hD hS 4 rfl (vin (by decide +kernel)) dX9_search_30 (fun f_ => [(sk, .inr (9, [.ref pl, .int 0, .ref sk_2, .ref sk_3, .ref sk_4])), (pl, .inr (4, [.ref ho, .ref pl_1, .int 0, .int (-1), .int (-1), .ref pl_5])), (ho, .inr (2, [.ref fl, .ref pe, .ref ru, .int 0, .ref ho_4, .ref ho_5, .ref ho_6, .int 0, .ref ho_8, .ref ho_9, .ref ho_10, .ref ho_11, .ref ho_12, .int 50])), (pe, .inr (3, [.int 0, .ref pe_1, .ref pe_2, .ref pe_3, .ref pe_4, .ref pe_5, .ref pe_6, .ref pe_7, .ref pe_8, .ref pe_9, .ref pe_10])), (sk_3, .inl (G.2.1, 12, .inl f_)), (sk_4, .inl (G.2.1, 5, .inl u1))]) (fun _ => rfl) (fun f3 H locs ef3 (hP : va_P G.1 vwCl [(sk, .inr (9, [.ref pl, .int 0, .ref sk_2, .ref sk_3, .ref sk_4])), (pl, .inr (4, [.ref ho, .ref pl_1, .int 0, .int (-1), .int (-1), .ref pl_5])), (ho, .inr (2, [.ref fl, .ref pe, .ref ru, .int 0, .ref ho_4, .ref ho_5, .ref ho_6, .int 0, .ref ho_8, .ref ho_9, .ref ho_10, .ref ho_11, .ref ho_12, .int 50])), (pe, .inr (3, [.int 0, .ref pe_1, .ref pe_2, .ref pe_3, .ref pe_4, .ref pe_5, .ref pe_6, .ref pe_7, .ref pe_8, .ref pe_9, .ref pe_10])), (sk_3, .inl (G.2.1, 12, .inl f3)), (sk_4, .inl (G.2.1, 5, .inl u1))] H) (hD : va_D A [(sk, .inr (9, [.ref pl, .int 0, .ref sk_2, .ref sk_3, .ref sk_4])), (pl, .inr (4, [.ref ho, .ref pl_1, .int 0, .int (-1), .int (-1), .ref pl_5])), (ho, .inr (2, [.ref fl, .ref pe, .ref ru, .int 0, .ref ho_4, .ref ho_5, .ref ho_6, .int 0, .ref ho_8, .ref ho_9, .ref ho_10, .ref ho_11, .ref ho_12, .int 50])), (pe, .inr (3, [.int 0, .ref pe_1, .ref pe_2, .ref pe_3, .ref pe_4, .ref pe_5, .ref pe_6, .ref pe_7, .ref pe_8, .ref pe_9, .ref pe_10])), (sk_3, .inl (G.2.1, 12, .inl f3)), (sk_4, .inl (G.2.1, 5, .inl u1))]) hS => ?_)
  refine lv_iconst (v := 0) hx hb dX9_search_31 (by decide) ?_
  refine lv_istore_n (lv' := [(3, .int 0), (2, .ref pe), (0, .ref sk), (1, .int a)]) hx hb dX9_search_32 rfl hl (by decide) rfl (fun ls hl => ?_)
  refine lv_iconst (v := 0) hx hb dX9_search_33 (by decide) ?_
  refine lv_istore (lv' := [(4, .int 0), (3, .int 0), (2, .ref pe), (0, .ref sk), (1, .int a)]) hx hb dX9_search_34 hl (by decide) rfl (fun ls hl => ?_)
  refine lv_iload hx hb dX9_search_36 (lv_at hl 0 rfl) ?_
  refine lv_ldc hx hb hown (F.2.2.2.2 _ cnX9_47) dX9_search_38 ?_
  refine lv_icmp_ge (tgt := 178) hx hb dX9_search_40 (by decide) (fun h_ => absurd h_ (by decide +kernel)) (fun _ => ?_)
  refine lv_iload_n hx hb dX9_search_43 rfl (lv_at hl 1 rfl) ?_
  refine lv_aload_n hx hb dX9_search_44 rfl (lv_at hl 2 rfl) ?_
  refine g_get F hK hP 3 rfl clX3 0 (by decide) flX9_48 rfl dX9_search_45 ?_
  refine lv_icmp_ge (tgt := 178) hx hb dX9_search_48 (by decide) (fun _ => ?_) (fun h_ => absurd (by decide +kernel) h_)
  refine lv_iconst (v := 1) hx hb dX9_search_178 (by decide) ?_
  exact r_i F hr hlk hP hD hS () [0, 1, 2, 3] rfl rfl rfl dX9_search_179 (Nat.le_of_ble_eq_true rfl) (Nat.le_of_ble_eq_true rfl)
set_option maxHeartbeats 4000000 in
set_option maxRecDepth 100000 in
theorem k_X9_takeFound (l : Launch) (G : Gx) (sk : Nat) (pl : Nat) (sk_2 : Nat) (sk_3 : Nat) (sk_4 : Nat) (ho : Nat) (pl_1 : Nat) (pl_5 : Nat) (fl : Nat) (pe : Nat) (ru : Nat) (ho_4 : Nat) (ho_5 : Nat) (ho_6 : Nat) (ho_8 : Nat) (ho_9 : Nat) (ho_10 : Nat) (ho_11 : Nat) (ho_12 : Nat) (pe_1 : Nat) (pe_2 : Nat) (pe_3 : Nat) (pe_4 : Nat) (pe_5 : Nat) (pe_6 : Nat) (pe_7 : Nat) (pe_8 : Nat) (pe_9 : Nat) (pe_10 : Nat)  : CtV (S := Unit) l yX9_takeFound cX9_takeFound 1 none (rmD 1 0 0) G [.ref sk] [(sk, .inr (9, [.ref pl, .int 0, .ref sk_2, .ref sk_3, .ref sk_4])), (pl, .inr (4, [.ref ho, .ref pl_1, .int 0, .int (-1), .int (-1), .ref pl_5])), (ho, .inr (2, [.ref fl, .ref pe, .ref ru, .int 0, .ref ho_4, .ref ho_5, .ref ho_6, .int 0, .ref ho_8, .ref ho_9, .ref ho_10, .ref ho_11, .ref ho_12, .int 50])), (pe, .inr (3, [.int 0, .ref pe_1, .ref pe_2, .ref pe_3, .ref pe_4, .ref pe_5, .ref pe_6, .ref pe_7, .ref pe_8, .ref pe_9, .ref pe_10])), (sk_2, .inl (G.2.1, 12, .inl (fun _ => 0))), (pl_1, .inl (G.2.1, 12, .inl (fun _ => 0)))] (fun _ => True) (fun _ => []) := by
  refine ctV_of (own := RX9) (by decide +kernel) rfl (Nat.le_of_ble_eq_true rfl) ?_
  intro p e s m below meth c A ls F hr hlk hnm hK hP hD hA hS hl
  have hx := F.1
  have hb := F.2.1
  have hown := F.2.2.2.1
  have hl : lv_has ls 1 [(0, .ref sk)] := hl
  refine lv_aload_n hx hb dX9_takeFound_0 rfl (lv_at hl 0 rfl) ?_
  refine g_get F hK hP 0 rfl clX9 2 (by decide) flX9_15 rfl dX9_takeFound_1 ?_
  refine lv_iconst (v := 0) hx hb dX9_takeFound_4 (by decide) ?_
  refine lv_aload_n hx hb dX9_takeFound_5 rfl (lv_at hl 0 rfl) ?_
  refine g_get F hK hP 0 rfl clX9 0 (by decide) flX9_25 rfl dX9_takeFound_6 ?_
  refine g_get F hK hP 1 rfl clX4 1 (by decide) flX9_84 rfl dX9_takeFound_9 ?_
  refine lv_iconst (v := 0) hx hb dX9_takeFound_12 (by decide) ?_
  refine lv_aload_n hx hb dX9_takeFound_13 rfl (lv_at hl 0 rfl) ?_
  refine g_get F hK hP 0 rfl clX9 0 (by decide) flX9_25 rfl dX9_takeFound_14 ?_
  refine g_get F hK hP 1 rfl clX4 0 (by decide) flX9_29 rfl dX9_takeFound_17 ?_
  refine g_get F hK hP 2 rfl clX2 1 (by decide) flX9_35 rfl dX9_takeFound_20 ?_
  refine g_get F hK hP 3 rfl clX3 0 (by decide) flX9_48 rfl dX9_takeFound_23 ?_
  refine va_copyi hx hb (F.2.2.1.trans hl.1.symm) hown (F.2.2.2.2 _ aclX9) (F.2.2.2.2 _ acn) (F.2.2.2.2 _ acs) (F.2.2.2.2 _ aci) hK.1 hP hD hS 4 5 0 0 rfl rfl rfl rfl rfl (by decide) (by decide) (by decide) (Nat.le_of_ble_eq_true rfl) (Nat.le_of_ble_eq_true rfl) (fun i hi => absurd hi (by rw [show (Int32.toNatClampNeg 0) = 0 from rfl]; exact Nat.not_lt_zero i)) (Nat.le_of_ble_eq_true rfl) (by decide) dX9_takeFound_26 (fun H locs (hP : va_P G.1 vwCl [(sk, .inr (9, [.ref pl, .int 0, .ref sk_2, .ref sk_3, .ref sk_4])), (pl, .inr (4, [.ref ho, .ref pl_1, .int 0, .int (-1), .int (-1), .ref pl_5])), (ho, .inr (2, [.ref fl, .ref pe, .ref ru, .int 0, .ref ho_4, .ref ho_5, .ref ho_6, .int 0, .ref ho_8, .ref ho_9, .ref ho_10, .ref ho_11, .ref ho_12, .int 50])), (pe, .inr (3, [.int 0, .ref pe_1, .ref pe_2, .ref pe_3, .ref pe_4, .ref pe_5, .ref pe_6, .ref pe_7, .ref pe_8, .ref pe_9, .ref pe_10])), (sk_2, .inl (G.2.1, 12, .inl (fun _ => 0))), (pl_1, .inl (G.2.1, 12, .inl (va_cpy (fun _ => 0) (fun _ => 0) (Int32.toNatClampNeg 0) (Int32.toNatClampNeg 0) (Int32.toNatClampNeg 0))))] H) (hD : va_D A [(sk, .inr (9, [.ref pl, .int 0, .ref sk_2, .ref sk_3, .ref sk_4])), (pl, .inr (4, [.ref ho, .ref pl_1, .int 0, .int (-1), .int (-1), .ref pl_5])), (ho, .inr (2, [.ref fl, .ref pe, .ref ru, .int 0, .ref ho_4, .ref ho_5, .ref ho_6, .int 0, .ref ho_8, .ref ho_9, .ref ho_10, .ref ho_11, .ref ho_12, .int 50])), (pe, .inr (3, [.int 0, .ref pe_1, .ref pe_2, .ref pe_3, .ref pe_4, .ref pe_5, .ref pe_6, .ref pe_7, .ref pe_8, .ref pe_9, .ref pe_10])), (sk_2, .inl (G.2.1, 12, .inl (fun _ => 0))), (pl_1, .inl (G.2.1, 12, .inl (va_cpy (fun _ => 0) (fun _ => 0) (Int32.toNatClampNeg 0) (Int32.toNatClampNeg 0) (Int32.toNatClampNeg 0))))]) hS => ?_)
  exact r_v F hr hlk hP hD hS () [] rfl rfl trivial dX9_takeFound_29 (Nat.le_of_ble_eq_true rfl) (Nat.le_of_ble_eq_true rfl)
set_option maxHeartbeats 4000000 in
set_option maxRecDepth 100000 in
theorem k_X9_fewestDesks (l : Launch) (G : Gx) (sk : Nat) (pl : Nat) (sk_2 : Nat) (sk_3 : Nat) (sk_4 : Nat) (ho : Nat) (pl_1 : Nat) (pl_5 : Nat) (fl : Nat) (pe : Nat) (ru : Nat) (ho_4 : Nat) (ho_5 : Nat) (ho_6 : Nat) (ho_8 : Nat) (ho_9 : Nat) (ho_10 : Nat) (ho_11 : Nat) (ho_12 : Nat) (pe_1 : Nat) (pe_2 : Nat) (pe_3 : Nat) (pe_4 : Nat) (pe_5 : Nat) (pe_6 : Nat) (pe_7 : Nat) (pe_8 : Nat) (pe_9 : Nat) (pe_10 : Nat)  : CtI (S := Unit) l yX9_fewestDesks cX9_fewestDesks 3 (some .int) (rmD 6 0 0) G [.ref sk] [(sk, .inr (9, [.ref pl, .int 0, .ref sk_2, .ref sk_3, .ref sk_4])), (pl, .inr (4, [.ref ho, .ref pl_1, .int 0, .int (-1), .int (-1), .ref pl_5])), (ho, .inr (2, [.ref fl, .ref pe, .ref ru, .int 0, .ref ho_4, .ref ho_5, .ref ho_6, .int 0, .ref ho_8, .ref ho_9, .ref ho_10, .ref ho_11, .ref ho_12, .int 50])), (pe, .inr (3, [.int 0, .ref pe_1, .ref pe_2, .ref pe_3, .ref pe_4, .ref pe_5, .ref pe_6, .ref pe_7, .ref pe_8, .ref pe_9, .ref pe_10])), (sk_4, .inl (G.2.1, 5, .inl (fun _ => 0))), (sk_3, .inl (G.2.1, 12, .inl (fun _ => 0)))] (fun r _ => r = 0) (fun _ => []) := by
  refine ctI_of (own := RX9) (by decide +kernel) rfl (Nat.le_of_ble_eq_true rfl) ?_
  intro p e s m below meth c A ls F hr hlk hnm hK hP hD hA hS hl
  have hx := F.1
  have hb := F.2.1
  have hown := F.2.2.2.1
  have hl : lv_has ls 3 [(0, .ref sk)] := hl
  refine lv_iconst (v := 0) hx hb dX9_fewestDesks_0 (by decide) ?_
  refine lv_istore_n (lv' := [(1, .int 0), (0, .ref sk)]) hx hb dX9_fewestDesks_1 rfl hl (by decide) rfl (fun ls hl => ?_)
  refine lv_iload_n hx hb dX9_fewestDesks_2 rfl (lv_at hl 0 rfl) ?_
  refine lv_bipush (v := 20) hx hb dX9_fewestDesks_3 (by decide) ?_
  refine lv_icmp_gt (tgt := 55) hx hb dX9_fewestDesks_5 (by decide) (fun h_ => absurd h_ (by decide +kernel)) (fun _ => ?_)
  refine lv_aload_n hx hb dX9_fewestDesks_8 rfl (lv_at hl 1 rfl) ?_
  refine lv_iload_n hx hb dX9_fewestDesks_9 rfl (lv_at hl 0 rfl) ?_
  refine cvi (wr := []) (As := [.int 0]) (rest := []) (b := sk) (k1 := 0) (s1 := 0) F hK hP hD hS hA (k_X9_search l G sk 0 pl sk_2 sk_3 sk_4 ho pl_1 pl_5 fl pe ru ho_4 ho_5 ho_6 ho_8 ho_9 ho_10 ho_11 ho_12 pe_1 pe_2 pe_3 pe_4 pe_5 pe_6 pe_7 pe_8 pe_9 pe_10) kmV_X9_search mlX9_91 clX9 rfl 0 rfl ⟨(Nat.le_of_ble_eq_true rfl), (Nat.le_of_ble_eq_true rfl)⟩ [0, 1, 2, 3, 4, 5] [] rfl rfl rfl rfl (by decide) hl.1 rfl (Nat.le_of_ble_eq_true rfl) dX9_fewestDesks_10 ⟨(Nat.le_of_ble_eq_true rfl), (Nat.le_of_ble_eq_true rfl)⟩ rfl rfl (fun r2 u1 H locs hwr2 (hP : va_P G.1 vwCl [(sk, .inr (9, [.ref pl, .int 0, .ref sk_2, .ref sk_3, .ref sk_4])), (pl, .inr (4, [.ref ho, .ref pl_1, .int 0, .int (-1), .int (-1), .ref pl_5])), (ho, .inr (2, [.ref fl, .ref pe, .ref ru, .int 0, .ref ho_4, .ref ho_5, .ref ho_6, .int 0, .ref ho_8, .ref ho_9, .ref ho_10, .ref ho_11, .ref ho_12, .int 50])), (pe, .inr (3, [.int 0, .ref pe_1, .ref pe_2, .ref pe_3, .ref pe_4, .ref pe_5, .ref pe_6, .ref pe_7, .ref pe_8, .ref pe_9, .ref pe_10]))] H) (hD : va_D A [(sk, .inr (9, [.ref pl, .int 0, .ref sk_2, .ref sk_3, .ref sk_4])), (pl, .inr (4, [.ref ho, .ref pl_1, .int 0, .int (-1), .int (-1), .ref pl_5])), (ho, .inr (2, [.ref fl, .ref pe, .ref ru, .int 0, .ref ho_4, .ref ho_5, .ref ho_6, .int 0, .ref ho_8, .ref ho_9, .ref ho_10, .ref ho_11, .ref ho_12, .int 50])), (pe, .inr (3, [.int 0, .ref pe_1, .ref pe_2, .ref pe_3, .ref pe_4, .ref pe_5, .ref pe_6, .ref pe_7, .ref pe_8, .ref pe_9, .ref pe_10]))]) hS => ?_)
  subst hwr2
  refine lv_istore_n (lv' := [(2, .int 1), (1, .int 0), (0, .ref sk)]) hx hb dX9_fewestDesks_13 rfl hl (by decide) rfl (fun ls hl => ?_)
  refine lv_iload_n hx hb dX9_fewestDesks_14 rfl (lv_at hl 0 rfl) ?_
  refine lv_iconst (v := 1) hx hb dX9_fewestDesks_15 (by decide) ?_
  refine lv_icmp_ne (tgt := 21) hx hb dX9_fewestDesks_16 (by decide) (fun h_ => absurd (by decide +kernel) h_) (fun _ => ?_)
  refine lv_iload_n hx hb dX9_fewestDesks_19 rfl (lv_at hl 1 rfl) ?_
  exact r_i F hr hlk hP hD hS () [] rfl rfl rfl dX9_fewestDesks_20 (Nat.le_of_ble_eq_true rfl) (Nat.le_of_ble_eq_true rfl)
set_option maxHeartbeats 4000000 in
set_option maxRecDepth 100000 in
theorem k_X9_improve (l : Launch) (G : Gx) (sk : Nat) (a : Int32) (pl : Nat) (sk_2 : Nat) (sk_3 : Nat) (sk_4 : Nat) (ho : Nat) (pl_1 : Nat) (pl_5 : Nat) (fl : Nat) (pe : Nat) (ru : Nat) (ho_4 : Nat) (ho_5 : Nat) (ho_6 : Nat) (ho_8 : Nat) (ho_9 : Nat) (ho_10 : Nat) (ho_11 : Nat) (ho_12 : Nat) (pe_1 : Nat) (pe_2 : Nat) (pe_3 : Nat) (pe_4 : Nat) (pe_5 : Nat) (pe_6 : Nat) (pe_7 : Nat) (pe_8 : Nat) (pe_9 : Nat) (pe_10 : Nat)  : CtI (S := Unit) l yX9_improve cX9_improve 12 (some .int) (rmD 3 0 0) G [.ref sk, .int a] [(sk, .inr (9, [.ref pl, .int 0, .ref sk_2, .ref sk_3, .ref sk_4])), (pl, .inr (4, [.ref ho, .ref pl_1, .int 0, .int (-1), .int (-1), .ref pl_5])), (ho, .inr (2, [.ref fl, .ref pe, .ref ru, .int 0, .ref ho_4, .ref ho_5, .ref ho_6, .int 0, .ref ho_8, .ref ho_9, .ref ho_10, .ref ho_11, .ref ho_12, .int 50])), (pe, .inr (3, [.int 0, .ref pe_1, .ref pe_2, .ref pe_3, .ref pe_4, .ref pe_5, .ref pe_6, .ref pe_7, .ref pe_8, .ref pe_9, .ref pe_10]))] (fun r _ => r = 0) (fun _ => []) := by
  refine ctI_of (own := RX9) (by decide +kernel) rfl (Nat.le_of_ble_eq_true rfl) ?_
  intro p e s m below meth c A ls F hr hlk hnm hK hP hD hA hS hl
  have hx := F.1
  have hb := F.2.1
  have hown := F.2.2.2.1
  have hl : lv_has ls 12 [(0, .ref sk), (1, .int a)] := hl
  refine lv_aload_n hx hb dX9_improve_0 rfl (lv_at hl 0 rfl) ?_
  refine g_get F hK hP 0 rfl clX9 0 (by decide) flX9_25 rfl dX9_improve_1 ?_
  refine g_get F hK hP 1 rfl clX4 0 (by decide) flX9_29 rfl dX9_improve_4 ?_
  refine g_get F hK hP 2 rfl clX2 1 (by decide) flX9_35 rfl dX9_improve_7 ?_
  refine lv_astore_n (lv' := [(2, .ref pe), (0, .ref sk), (1, .int a)]) hx hb dX9_improve_10 rfl hl (by decide) rfl (fun ls hl => ?_)
  refine lv_aload_n hx hb dX9_improve_11 rfl (lv_at hl 1 rfl) ?_
  refine g_get F hK hP 0 rfl clX9 0 (by decide) flX9_25 rfl dX9_improve_12 ?_
  refine cvi (wr := [(sk, .inr (9, [.ref pl, .int 0, .ref sk_2, .ref sk_3, .ref sk_4]))]) (As := []) (rest := []) (b := pl) (k1 := 0) (s1 := 0) F hK hP hD hS hA (k_X4_total l G pl ho pl_1 pl_5 fl pe ru ho_4 ho_5 ho_6 ho_8 ho_9 ho_10 ho_11 ho_12 pe_1 pe_2 pe_3 pe_4 pe_5 pe_6 pe_7 pe_8 pe_9 pe_10) kmV_X4_total mlX9_95 clX4 rfl 0 rfl ⟨(Nat.le_of_ble_eq_true rfl), (Nat.le_of_ble_eq_true rfl)⟩ [1, 2, 3] [0] rfl rfl rfl rfl (by decide) hl.1 rfl (Nat.le_of_ble_eq_true rfl) dX9_improve_15 ⟨(Nat.le_of_ble_eq_true rfl), (Nat.le_of_ble_eq_true rfl)⟩ rfl rfl (fun r2 u1 H locs hwr2 (hP : va_P G.1 vwCl [(sk, .inr (9, [.ref pl, .int 0, .ref sk_2, .ref sk_3, .ref sk_4])), (pl, .inr (4, [.ref ho, .ref pl_1, .int 0, .int (-1), .int (-1), .ref pl_5])), (ho, .inr (2, [.ref fl, .ref pe, .ref ru, .int 0, .ref ho_4, .ref ho_5, .ref ho_6, .int 0, .ref ho_8, .ref ho_9, .ref ho_10, .ref ho_11, .ref ho_12, .int 50])), (pe, .inr (3, [.int 0, .ref pe_1, .ref pe_2, .ref pe_3, .ref pe_4, .ref pe_5, .ref pe_6, .ref pe_7, .ref pe_8, .ref pe_9, .ref pe_10]))] H) (hD : va_D A [(sk, .inr (9, [.ref pl, .int 0, .ref sk_2, .ref sk_3, .ref sk_4])), (pl, .inr (4, [.ref ho, .ref pl_1, .int 0, .int (-1), .int (-1), .ref pl_5])), (ho, .inr (2, [.ref fl, .ref pe, .ref ru, .int 0, .ref ho_4, .ref ho_5, .ref ho_6, .int 0, .ref ho_8, .ref ho_9, .ref ho_10, .ref ho_11, .ref ho_12, .int 50])), (pe, .inr (3, [.int 0, .ref pe_1, .ref pe_2, .ref pe_3, .ref pe_4, .ref pe_5, .ref pe_6, .ref pe_7, .ref pe_8, .ref pe_9, .ref pe_10]))]) hS => ?_)
  subst hwr2
  refine lv_istore_n (lv' := [(3, .int 0), (2, .ref pe), (0, .ref sk), (1, .int a)]) hx hb dX9_improve_18 rfl hl (by decide) rfl (fun ls hl => ?_)
  refine lv_iconst (v := 0) hx hb dX9_improve_19 (by decide) ?_
  refine lv_istore (lv' := [(4, .int 0), (3, .int 0), (2, .ref pe), (0, .ref sk), (1, .int a)]) hx hb dX9_improve_20 hl (by decide) rfl (fun ls hl => ?_)
  refine lv_iconst (v := 0) hx hb dX9_improve_22 (by decide) ?_
  refine lv_istore (lv' := [(5, .int 0), (4, .int 0), (3, .int 0), (2, .ref pe), (0, .ref sk), (1, .int a)]) hx hb dX9_improve_23 hl (by decide) rfl (fun ls hl => ?_)
  refine lv_iconst (v := 0) hx hb dX9_improve_25 (by decide) ?_
  refine lv_istore (lv' := [(6, .int 0), (5, .int 0), (4, .int 0), (3, .int 0), (2, .ref pe), (0, .ref sk), (1, .int a)]) hx hb dX9_improve_26 hl (by decide) rfl (fun ls hl => ?_)
  refine lv_iconst (v := 0) hx hb dX9_improve_28 (by decide) ?_
  refine lv_istore (lv' := [(7, .int 0), (6, .int 0), (5, .int 0), (4, .int 0), (3, .int 0), (2, .ref pe), (0, .ref sk), (1, .int a)]) hx hb dX9_improve_29 hl (by decide) rfl (fun ls hl => ?_)
  refine lv_iconst (v := 0) hx hb dX9_improve_31 (by decide) ?_
  refine lv_istore (lv' := [(8, .int 0), (7, .int 0), (6, .int 0), (5, .int 0), (4, .int 0), (3, .int 0), (2, .ref pe), (0, .ref sk), (1, .int a)]) hx hb dX9_improve_32 hl (by decide) rfl (fun ls hl => ?_)
  refine lv_iload hx hb dX9_improve_34 (lv_at hl 0 rfl) ?_
  refine lv_ldc hx hb hown (F.2.2.2.2 _ cnX9_47) dX9_improve_36 ?_
  refine lv_icmp_ge (tgt := 195) hx hb dX9_improve_38 (by decide) (fun h_ => absurd h_ (by decide +kernel)) (fun _ => ?_)
  refine lv_iload hx hb dX9_improve_41 (lv_at hl 2 rfl) ?_
  refine lv_aload_n hx hb dX9_improve_43 rfl (lv_at hl 6 rfl) ?_
  refine g_get F hK hP 3 rfl clX3 0 (by decide) flX9_48 rfl dX9_improve_44 ?_
  refine lv_icmp_ge (tgt := 195) hx hb dX9_improve_47 (by decide) (fun _ => ?_) (fun h_ => absurd (by decide +kernel) h_)
  refine lv_iload hx hb dX9_improve_195 (lv_at hl 4 rfl) ?_
  exact r_i F hr hlk hP hD hS () [] rfl rfl rfl dX9_improve_197 (Nat.le_of_ble_eq_true rfl) (Nat.le_of_ble_eq_true rfl)
set_option maxHeartbeats 4000000 in
set_option maxRecDepth 100000 in
theorem k_X11_seek (l : Launch) (G : Gx) (x : Nat) (x_0 : Nat) (sp : Nat) (stm : Nat) (pl : Nat) (sk : Nat) (se : Nat) (ch : Nat) (x_11 : Nat) (x_13 : Nat) (ho : Nat) (pl_1 : Nat) (pl_5 : Nat) (fl : Nat) (pe : Nat) (ru : Nat) (ho_4 : Nat) (ho_5 : Nat) (ho_6 : Nat) (ho_8 : Nat) (ho_9 : Nat) (ho_10 : Nat) (ho_11 : Nat) (ho_12 : Nat) (pe_1 : Nat) (pe_2 : Nat) (pe_3 : Nat) (pe_4 : Nat) (pe_5 : Nat) (pe_6 : Nat) (pe_7 : Nat) (pe_8 : Nat) (pe_9 : Nat) (pe_10 : Nat) (fl_3 : Nat) (fl_4 : Nat) (fl_5 : Nat) (fl_6 : Nat) (fl_7 : Nat) (sk_2 : Nat) (sk_3 : Nat) (sk_4 : Nat)  : CtI (S := Unit) l yX11_seek cX11_seek 2 (some .int) (rmD 6 0 0) G [.ref x] [(x, .inr (11, [.ref x_0, .int 0, .ref sp, .ref stm, .ref pl, .ref sk, .ref se, .ref ch, .int 0, .int (-1), .long 1, .ref x_11, .int 0, .ref x_13])), (pl, .inr (4, [.ref ho, .ref pl_1, .int 0, .int (-1), .int (-1), .ref pl_5])), (ho, .inr (2, [.ref fl, .ref pe, .ref ru, .int 0, .ref ho_4, .ref ho_5, .ref ho_6, .int 0, .ref ho_8, .ref ho_9, .ref ho_10, .ref ho_11, .ref ho_12, .int 50])), (pe, .inr (3, [.int 0, .ref pe_1, .ref pe_2, .ref pe_3, .ref pe_4, .ref pe_5, .ref pe_6, .ref pe_7, .ref pe_8, .ref pe_9, .ref pe_10])), (fl, .inr (1, [.int 0, .int 0, .int 0, .ref fl_3, .ref fl_4, .ref fl_5, .ref fl_6, .ref fl_7])), (sk, .inr (9, [.ref pl, .int 0, .ref sk_2, .ref sk_3, .ref sk_4])), (sk_4, .inl (G.2.1, 5, .inl (fun _ => 0))), (sk_3, .inl (G.2.1, 12, .inl (fun _ => 0))), (sk_2, .inl (G.2.1, 12, .inl (fun _ => 0))), (pl_1, .inl (G.2.1, 12, .inl (fun _ => 0)))] (fun r _ => r = 1) (fun _ => []) := by
  refine ctI_of (own := RX11) (by decide +kernel) rfl (Nat.le_of_ble_eq_true rfl) ?_
  intro p e s m below meth c A ls F hr hlk hnm hK hP hD hA hS hl
  have hx := F.1
  have hb := F.2.1
  have hown := F.2.2.2.1
  have hl : lv_has ls 2 [(0, .ref x)] := hl
  refine lv_aload_n hx hb dX11_seek_0 rfl (lv_at hl 0 rfl) ?_
  refine g_get F hK hP 0 rfl clX11 5 (by decide) flX11_52 rfl dX11_seek_1 ?_
  refine lv_aload_n hx hb dX11_seek_4 rfl (lv_at hl 0 rfl) ?_
  refine g_get F hK hP 0 rfl clX11 4 (by decide) flX11_43 rfl dX11_seek_5 ?_
  refine g_get F hK hP 1 rfl clX4 0 (by decide) flX11_121 rfl dX11_seek_8 ?_
  refine g_get F hK hP 2 rfl clX2 0 (by decide) flX11_129 rfl dX11_seek_11 ?_
  refine g_get F hK hP 4 rfl clX1 1 (by decide) flX11_149 rfl dX11_seek_14 ?_
  refine lv_aload_n hx hb dX11_seek_17 rfl (lv_at hl 0 rfl) ?_
  refine g_get F hK hP 0 rfl clX11 4 (by decide) flX11_43 rfl dX11_seek_18 ?_
  refine g_get F hK hP 1 rfl clX4 0 (by decide) flX11_121 rfl dX11_seek_21 ?_
  refine g_get F hK hP 2 rfl clX2 0 (by decide) flX11_129 rfl dX11_seek_24 ?_
  refine g_get F hK hP 4 rfl clX1 2 (by decide) flX11_152 rfl dX11_seek_27 ?_
  refine lv_isub hx hb dX11_seek_30 ?_
  refine cst_i (y := 0) (by decide +kernel) ?_
  refine cvi (wr := [(x, .inr (11, [.ref x_0, .int 0, .ref sp, .ref stm, .ref pl, .ref sk, .ref se, .ref ch, .int 0, .int (-1), .long 1, .ref x_11, .int 0, .ref x_13])), (fl, .inr (1, [.int 0, .int 0, .int 0, .ref fl_3, .ref fl_4, .ref fl_5, .ref fl_6, .ref fl_7])), (sk_2, .inl (G.2.1, 12, .inl (fun _ => 0))), (pl_1, .inl (G.2.1, 12, .inl (fun _ => 0)))]) (As := [.int 0]) (rest := []) (b := sk) (k1 := 0) (s1 := 0) F hK hP hD hS hA (k_X9_search l G sk 0 pl sk_2 sk_3 sk_4 ho pl_1 pl_5 fl pe ru ho_4 ho_5 ho_6 ho_8 ho_9 ho_10 ho_11 ho_12 pe_1 pe_2 pe_3 pe_4 pe_5 pe_6 pe_7 pe_8 pe_9 pe_10) kmV_X9_search mlX11_260 clX9 rfl 0 rfl ⟨(Nat.le_of_ble_eq_true rfl), (Nat.le_of_ble_eq_true rfl)⟩ [5, 1, 2, 3, 6, 7] [0, 4, 8, 9] rfl rfl rfl rfl (by decide) hl.1 rfl (Nat.le_of_ble_eq_true rfl) dX11_seek_31 ⟨(Nat.le_of_ble_eq_true rfl), (Nat.le_of_ble_eq_true rfl)⟩ rfl rfl (fun r2 u1 H locs hwr2 (hP : va_P G.1 vwCl [(x, .inr (11, [.ref x_0, .int 0, .ref sp, .ref stm, .ref pl, .ref sk, .ref se, .ref ch, .int 0, .int (-1), .long 1, .ref x_11, .int 0, .ref x_13])), (fl, .inr (1, [.int 0, .int 0, .int 0, .ref fl_3, .ref fl_4, .ref fl_5, .ref fl_6, .ref fl_7])), (sk_2, .inl (G.2.1, 12, .inl (fun _ => 0))), (pl_1, .inl (G.2.1, 12, .inl (fun _ => 0))), (sk, .inr (9, [.ref pl, .int 0, .ref sk_2, .ref sk_3, .ref sk_4])), (pl, .inr (4, [.ref ho, .ref pl_1, .int 0, .int (-1), .int (-1), .ref pl_5])), (ho, .inr (2, [.ref fl, .ref pe, .ref ru, .int 0, .ref ho_4, .ref ho_5, .ref ho_6, .int 0, .ref ho_8, .ref ho_9, .ref ho_10, .ref ho_11, .ref ho_12, .int 50])), (pe, .inr (3, [.int 0, .ref pe_1, .ref pe_2, .ref pe_3, .ref pe_4, .ref pe_5, .ref pe_6, .ref pe_7, .ref pe_8, .ref pe_9, .ref pe_10]))] H) (hD : va_D A [(x, .inr (11, [.ref x_0, .int 0, .ref sp, .ref stm, .ref pl, .ref sk, .ref se, .ref ch, .int 0, .int (-1), .long 1, .ref x_11, .int 0, .ref x_13])), (fl, .inr (1, [.int 0, .int 0, .int 0, .ref fl_3, .ref fl_4, .ref fl_5, .ref fl_6, .ref fl_7])), (sk_2, .inl (G.2.1, 12, .inl (fun _ => 0))), (pl_1, .inl (G.2.1, 12, .inl (fun _ => 0))), (sk, .inr (9, [.ref pl, .int 0, .ref sk_2, .ref sk_3, .ref sk_4])), (pl, .inr (4, [.ref ho, .ref pl_1, .int 0, .int (-1), .int (-1), .ref pl_5])), (ho, .inr (2, [.ref fl, .ref pe, .ref ru, .int 0, .ref ho_4, .ref ho_5, .ref ho_6, .int 0, .ref ho_8, .ref ho_9, .ref ho_10, .ref ho_11, .ref ho_12, .int 50])), (pe, .inr (3, [.int 0, .ref pe_1, .ref pe_2, .ref pe_3, .ref pe_4, .ref pe_5, .ref pe_6, .ref pe_7, .ref pe_8, .ref pe_9, .ref pe_10]))]) hS => ?_)
  subst hwr2
  refine lv_istore_n (lv' := [(1, .int 1), (0, .ref x)]) hx hb dX11_seek_34 rfl hl (by decide) rfl (fun ls hl => ?_)
  refine lv_iload_n hx hb dX11_seek_35 rfl (lv_at hl 0 rfl) ?_
  refine lv_iconst (v := 1) hx hb dX11_seek_36 (by decide) ?_
  refine lv_icmp_ne (tgt := 47) hx hb dX11_seek_37 (by decide) (fun h_ => absurd (by decide +kernel) h_) (fun _ => ?_)
  refine lv_aload_n hx hb dX11_seek_40 rfl (lv_at hl 1 rfl) ?_
  refine g_get F hK hP 0 rfl clX11 5 (by decide) flX11_52 rfl dX11_seek_41 ?_
  refine cvv (wr := [(x, .inr (11, [.ref x_0, .int 0, .ref sp, .ref stm, .ref pl, .ref sk, .ref se, .ref ch, .int 0, .int (-1), .long 1, .ref x_11, .int 0, .ref x_13])), (fl, .inr (1, [.int 0, .int 0, .int 0, .ref fl_3, .ref fl_4, .ref fl_5, .ref fl_6, .ref fl_7]))]) (As := []) (rest := []) (b := sk) (k1 := 0) (s1 := 0) F hK hP hD hS hA (k_X9_takeFound l G sk pl sk_2 sk_3 sk_4 ho pl_1 pl_5 fl pe ru ho_4 ho_5 ho_6 ho_8 ho_9 ho_10 ho_11 ho_12 pe_1 pe_2 pe_3 pe_4 pe_5 pe_6 pe_7 pe_8 pe_9 pe_10) kmV_X9_takeFound mlX11_263 clX9 rfl 0 rfl ⟨(Nat.le_of_ble_eq_true rfl), (Nat.le_of_ble_eq_true rfl)⟩ [4, 5, 6, 7, 2, 3] [0, 1] rfl rfl rfl rfl (by decide) hl.1 rfl (Nat.le_of_ble_eq_true rfl) dX11_seek_44 ⟨(Nat.le_of_ble_eq_true rfl), (Nat.le_of_ble_eq_true rfl)⟩ rfl rfl (fun u3 H locs hwr4 (hP : va_P G.1 vwCl [(x, .inr (11, [.ref x_0, .int 0, .ref sp, .ref stm, .ref pl, .ref sk, .ref se, .ref ch, .int 0, .int (-1), .long 1, .ref x_11, .int 0, .ref x_13])), (fl, .inr (1, [.int 0, .int 0, .int 0, .ref fl_3, .ref fl_4, .ref fl_5, .ref fl_6, .ref fl_7]))] H) (hD : va_D A [(x, .inr (11, [.ref x_0, .int 0, .ref sp, .ref stm, .ref pl, .ref sk, .ref se, .ref ch, .int 0, .int (-1), .long 1, .ref x_11, .int 0, .ref x_13])), (fl, .inr (1, [.int 0, .int 0, .int 0, .ref fl_3, .ref fl_4, .ref fl_5, .ref fl_6, .ref fl_7]))]) hS => ?_)
  refine lv_iload_n hx hb dX11_seek_47 rfl (lv_at hl 0 rfl) ?_
  exact r_i F hr hlk hP hD hS () [] rfl rfl rfl dX11_seek_48 (Nat.le_of_ble_eq_true rfl) (Nat.le_of_ble_eq_true rfl)
set_option maxHeartbeats 4000000 in
set_option maxRecDepth 100000 in
theorem k_X11_fewest (l : Launch) (G : Gx) (x : Nat) (x_0 : Nat) (sp : Nat) (stm : Nat) (pl : Nat) (sk : Nat) (se : Nat) (ch : Nat) (x_11 : Nat) (x_13 : Nat) (ho : Nat) (pl_1 : Nat) (pl_5 : Nat) (fl : Nat) (pe : Nat) (ru : Nat) (ho_4 : Nat) (ho_5 : Nat) (ho_6 : Nat) (ho_8 : Nat) (ho_9 : Nat) (ho_10 : Nat) (ho_11 : Nat) (ho_12 : Nat) (pe_1 : Nat) (pe_2 : Nat) (pe_3 : Nat) (pe_4 : Nat) (pe_5 : Nat) (pe_6 : Nat) (pe_7 : Nat) (pe_8 : Nat) (pe_9 : Nat) (pe_10 : Nat) (fl_3 : Nat) (fl_4 : Nat) (fl_5 : Nat) (fl_6 : Nat) (fl_7 : Nat) (sk_2 : Nat) (sk_3 : Nat) (sk_4 : Nat)  : CtI (S := Unit) l yX11_fewest cX11_fewest 1 (some .int) (rmD 7 0 0) G [.ref x] [(x, .inr (11, [.ref x_0, .int 0, .ref sp, .ref stm, .ref pl, .ref sk, .ref se, .ref ch, .int 0, .int (-1), .long 1, .ref x_11, .int 0, .ref x_13])), (pl, .inr (4, [.ref ho, .ref pl_1, .int 0, .int (-1), .int (-1), .ref pl_5])), (ho, .inr (2, [.ref fl, .ref pe, .ref ru, .int 0, .ref ho_4, .ref ho_5, .ref ho_6, .int 0, .ref ho_8, .ref ho_9, .ref ho_10, .ref ho_11, .ref ho_12, .int 50])), (pe, .inr (3, [.int 0, .ref pe_1, .ref pe_2, .ref pe_3, .ref pe_4, .ref pe_5, .ref pe_6, .ref pe_7, .ref pe_8, .ref pe_9, .ref pe_10])), (fl, .inr (1, [.int 0, .int 0, .int 0, .ref fl_3, .ref fl_4, .ref fl_5, .ref fl_6, .ref fl_7])), (sk, .inr (9, [.ref pl, .int 0, .ref sk_2, .ref sk_3, .ref sk_4])), (sk_4, .inl (G.2.1, 5, .inl (fun _ => 0))), (sk_3, .inl (G.2.1, 12, .inl (fun _ => 0))), (sk_2, .inl (G.2.1, 12, .inl (fun _ => 0))), (pl_1, .inl (G.2.1, 12, .inl (fun _ => 0)))] (fun r _ => r = 0) (fun _ => []) := by
  refine ctI_of (own := RX11) (by decide +kernel) rfl (Nat.le_of_ble_eq_true rfl) ?_
  intro p e s m below meth c A ls F hr hlk hnm hK hP hD hA hS hl
  have hx := F.1
  have hb := F.2.1
  have hown := F.2.2.2.1
  have hl : lv_has ls 1 [(0, .ref x)] := hl
  refine lv_aload_n hx hb dX11_fewest_0 rfl (lv_at hl 0 rfl) ?_
  refine g_get F hK hP 0 rfl clX11 5 (by decide) flX11_52 rfl dX11_fewest_1 ?_
  refine cvi (wr := [(x, .inr (11, [.ref x_0, .int 0, .ref sp, .ref stm, .ref pl, .ref sk, .ref se, .ref ch, .int 0, .int (-1), .long 1, .ref x_11, .int 0, .ref x_13])), (fl, .inr (1, [.int 0, .int 0, .int 0, .ref fl_3, .ref fl_4, .ref fl_5, .ref fl_6, .ref fl_7])), (sk_2, .inl (G.2.1, 12, .inl (fun _ => 0))), (pl_1, .inl (G.2.1, 12, .inl (fun _ => 0)))]) (As := []) (rest := []) (b := sk) (k1 := 0) (s1 := 0) F hK hP hD hS hA (k_X9_fewestDesks l G sk pl sk_2 sk_3 sk_4 ho pl_1 pl_5 fl pe ru ho_4 ho_5 ho_6 ho_8 ho_9 ho_10 ho_11 ho_12 pe_1 pe_2 pe_3 pe_4 pe_5 pe_6 pe_7 pe_8 pe_9 pe_10) kmV_X9_fewestDesks mlX11_269 clX9 rfl 0 rfl ⟨(Nat.le_of_ble_eq_true rfl), (Nat.le_of_ble_eq_true rfl)⟩ [5, 1, 2, 3, 6, 7] [0, 4, 8, 9] rfl rfl rfl rfl (by decide) hl.1 rfl (Nat.le_of_ble_eq_true rfl) dX11_fewest_4 ⟨(Nat.le_of_ble_eq_true rfl), (Nat.le_of_ble_eq_true rfl)⟩ rfl rfl (fun r2 u1 H locs hwr2 (hP : va_P G.1 vwCl [(x, .inr (11, [.ref x_0, .int 0, .ref sp, .ref stm, .ref pl, .ref sk, .ref se, .ref ch, .int 0, .int (-1), .long 1, .ref x_11, .int 0, .ref x_13])), (fl, .inr (1, [.int 0, .int 0, .int 0, .ref fl_3, .ref fl_4, .ref fl_5, .ref fl_6, .ref fl_7])), (sk_2, .inl (G.2.1, 12, .inl (fun _ => 0))), (pl_1, .inl (G.2.1, 12, .inl (fun _ => 0)))] H) (hD : va_D A [(x, .inr (11, [.ref x_0, .int 0, .ref sp, .ref stm, .ref pl, .ref sk, .ref se, .ref ch, .int 0, .int (-1), .long 1, .ref x_11, .int 0, .ref x_13])), (fl, .inr (1, [.int 0, .int 0, .int 0, .ref fl_3, .ref fl_4, .ref fl_5, .ref fl_6, .ref fl_7])), (sk_2, .inl (G.2.1, 12, .inl (fun _ => 0))), (pl_1, .inl (G.2.1, 12, .inl (fun _ => 0)))]) hS => ?_)
  subst hwr2
  exact r_i F hr hlk hP hD hS () [] rfl rfl rfl dX11_fewest_7 (Nat.le_of_ble_eq_true rfl) (Nat.le_of_ble_eq_true rfl)
set_option maxHeartbeats 4000000 in
set_option maxRecDepth 100000 in
theorem k_X11_better (l : Launch) (G : Gx) (x : Nat) (a : Int32) (x_0 : Nat) (sp : Nat) (stm : Nat) (pl : Nat) (sk : Nat) (se : Nat) (ch : Nat) (x_11 : Nat) (x_13 : Nat) (ho : Nat) (pl_1 : Nat) (pl_5 : Nat) (fl : Nat) (pe : Nat) (ru : Nat) (ho_4 : Nat) (ho_5 : Nat) (ho_6 : Nat) (ho_8 : Nat) (ho_9 : Nat) (ho_10 : Nat) (ho_11 : Nat) (ho_12 : Nat) (pe_1 : Nat) (pe_2 : Nat) (pe_3 : Nat) (pe_4 : Nat) (pe_5 : Nat) (pe_6 : Nat) (pe_7 : Nat) (pe_8 : Nat) (pe_9 : Nat) (pe_10 : Nat) (fl_3 : Nat) (fl_4 : Nat) (fl_5 : Nat) (fl_6 : Nat) (fl_7 : Nat) (sk_2 : Nat) (sk_3 : Nat) (sk_4 : Nat)  : CtI (S := Unit) l yX11_better cX11_better 2 (some .int) (rmD 6 0 0) G [.ref x, .int a] [(x, .inr (11, [.ref x_0, .int 0, .ref sp, .ref stm, .ref pl, .ref sk, .ref se, .ref ch, .int 0, .int (-1), .long 1, .ref x_11, .int 0, .ref x_13])), (pl, .inr (4, [.ref ho, .ref pl_1, .int 0, .int (-1), .int (-1), .ref pl_5])), (ho, .inr (2, [.ref fl, .ref pe, .ref ru, .int 0, .ref ho_4, .ref ho_5, .ref ho_6, .int 0, .ref ho_8, .ref ho_9, .ref ho_10, .ref ho_11, .ref ho_12, .int 50])), (pe, .inr (3, [.int 0, .ref pe_1, .ref pe_2, .ref pe_3, .ref pe_4, .ref pe_5, .ref pe_6, .ref pe_7, .ref pe_8, .ref pe_9, .ref pe_10])), (fl, .inr (1, [.int 0, .int 0, .int 0, .ref fl_3, .ref fl_4, .ref fl_5, .ref fl_6, .ref fl_7])), (sk, .inr (9, [.ref pl, .int 0, .ref sk_2, .ref sk_3, .ref sk_4])), (sk_4, .inl (G.2.1, 5, .inl (fun _ => 0))), (sk_3, .inl (G.2.1, 12, .inl (fun _ => 0))), (sk_2, .inl (G.2.1, 12, .inl (fun _ => 0))), (pl_1, .inl (G.2.1, 12, .inl (fun _ => 0))), (x_13, .inl (G.2.1, 6, .inl (fun _ => 0)))] (fun r _ => r = fBetter a) (fun _ => []) := by
  refine ctI_of (own := RX11) (by decide +kernel) rfl (Nat.le_of_ble_eq_true rfl) ?_
  intro p e s m below meth c A ls F hr hlk hnm hK hP hD hA hS hl
  have hx := F.1
  have hb := F.2.1
  have hown := F.2.2.2.1
  have hl : lv_has ls 2 [(0, .ref x), (1, .int a)] := hl
  refine lv_iload_n hx hb dX11_better_0 rfl (lv_at hl 1 rfl) ?_
  refine lv_iconst (v := 1) hx hb dX11_better_1 (by decide) ?_
  refine lv_icmp_lt (tgt := 22) hx hb dX11_better_2 (by decide) (fun c1 => ?_) (fun c1 => ?_)
  · refine lv_aload_n hx hb dX11_better_22 rfl (lv_at hl 0 rfl) ?_
    refine lv_iconst (v := 3) hx hb dX11_better_23 (by decide) ?_
    refine cvi (wr := [(pl, .inr (4, [.ref ho, .ref pl_1, .int 0, .int (-1), .int (-1), .ref pl_5])), (ho, .inr (2, [.ref fl, .ref pe, .ref ru, .int 0, .ref ho_4, .ref ho_5, .ref ho_6, .int 0, .ref ho_8, .ref ho_9, .ref ho_10, .ref ho_11, .ref ho_12, .int 50])), (pe, .inr (3, [.int 0, .ref pe_1, .ref pe_2, .ref pe_3, .ref pe_4, .ref pe_5, .ref pe_6, .ref pe_7, .ref pe_8, .ref pe_9, .ref pe_10])), (fl, .inr (1, [.int 0, .int 0, .int 0, .ref fl_3, .ref fl_4, .ref fl_5, .ref fl_6, .ref fl_7])), (sk, .inr (9, [.ref pl, .int 0, .ref sk_2, .ref sk_3, .ref sk_4])), (sk_4, .inl (G.2.1, 5, .inl (fun _ => 0))), (sk_3, .inl (G.2.1, 12, .inl (fun _ => 0))), (sk_2, .inl (G.2.1, 12, .inl (fun _ => 0))), (pl_1, .inl (G.2.1, 12, .inl (fun _ => 0)))]) (As := [.int 3]) (rest := []) (b := x) (k1 := 0) (s1 := 0) F hK hP hD hS hA (k_X11_refuse l G x 3 x_0 sp stm pl sk se ch x_11 x_13 (vin (by decide +kernel))) kmV_X11_refuse mlX11_89 clX11 rfl 0 rfl ⟨(Nat.le_of_ble_eq_true rfl), (Nat.le_of_ble_eq_true rfl)⟩ [0, 10] [1, 2, 3, 4, 5, 6, 7, 8, 9] rfl rfl rfl rfl (by decide) hl.1 rfl (Nat.le_of_ble_eq_true rfl) dX11_better_24 ⟨(Nat.le_of_ble_eq_true rfl), (Nat.le_of_ble_eq_true rfl)⟩ rfl rfl (fun r3 u2 H locs hwr3 (hP : va_P G.1 vwCl [(pl, .inr (4, [.ref ho, .ref pl_1, .int 0, .int (-1), .int (-1), .ref pl_5])), (ho, .inr (2, [.ref fl, .ref pe, .ref ru, .int 0, .ref ho_4, .ref ho_5, .ref ho_6, .int 0, .ref ho_8, .ref ho_9, .ref ho_10, .ref ho_11, .ref ho_12, .int 50])), (pe, .inr (3, [.int 0, .ref pe_1, .ref pe_2, .ref pe_3, .ref pe_4, .ref pe_5, .ref pe_6, .ref pe_7, .ref pe_8, .ref pe_9, .ref pe_10])), (fl, .inr (1, [.int 0, .int 0, .int 0, .ref fl_3, .ref fl_4, .ref fl_5, .ref fl_6, .ref fl_7])), (sk, .inr (9, [.ref pl, .int 0, .ref sk_2, .ref sk_3, .ref sk_4])), (sk_4, .inl (G.2.1, 5, .inl (fun _ => 0))), (sk_3, .inl (G.2.1, 12, .inl (fun _ => 0))), (sk_2, .inl (G.2.1, 12, .inl (fun _ => 0))), (pl_1, .inl (G.2.1, 12, .inl (fun _ => 0))), (x, .inr (11, [.ref x_0, .int 0, .ref sp, .ref stm, .ref pl, .ref sk, .ref se, .ref ch, .int 0, .int (-1), .long 1, .ref x_11, .int 0, .ref x_13]))] H) (hD : va_D A [(pl, .inr (4, [.ref ho, .ref pl_1, .int 0, .int (-1), .int (-1), .ref pl_5])), (ho, .inr (2, [.ref fl, .ref pe, .ref ru, .int 0, .ref ho_4, .ref ho_5, .ref ho_6, .int 0, .ref ho_8, .ref ho_9, .ref ho_10, .ref ho_11, .ref ho_12, .int 50])), (pe, .inr (3, [.int 0, .ref pe_1, .ref pe_2, .ref pe_3, .ref pe_4, .ref pe_5, .ref pe_6, .ref pe_7, .ref pe_8, .ref pe_9, .ref pe_10])), (fl, .inr (1, [.int 0, .int 0, .int 0, .ref fl_3, .ref fl_4, .ref fl_5, .ref fl_6, .ref fl_7])), (sk, .inr (9, [.ref pl, .int 0, .ref sk_2, .ref sk_3, .ref sk_4])), (sk_4, .inl (G.2.1, 5, .inl (fun _ => 0))), (sk_3, .inl (G.2.1, 12, .inl (fun _ => 0))), (sk_2, .inl (G.2.1, 12, .inl (fun _ => 0))), (pl_1, .inl (G.2.1, 12, .inl (fun _ => 0))), (x, .inr (11, [.ref x_0, .int 0, .ref sp, .ref stm, .ref pl, .ref sk, .ref se, .ref ch, .int 0, .int (-1), .long 1, .ref x_11, .int 0, .ref x_13]))]) hS => ?_)
    subst hwr3
    exact r_i F hr hlk hP hD hS () [] rfl rfl (by simp [fBetter, c1]) dX11_better_27 (Nat.le_of_ble_eq_true rfl) (Nat.le_of_ble_eq_true rfl)
  · refine lv_iload_n hx hb dX11_better_5 rfl (lv_at hl 1 rfl) ?_
    refine lv_sipush (v := 2000) hx hb dX11_better_6 (by decide) ?_
    refine lv_icmp_gt (tgt := 22) hx hb dX11_better_9 (by decide) (fun c4 => ?_) (fun c4 => ?_)
    · refine lv_aload_n hx hb dX11_better_22 rfl (lv_at hl 0 rfl) ?_
      refine lv_iconst (v := 3) hx hb dX11_better_23 (by decide) ?_
      refine cvi (wr := [(pl, .inr (4, [.ref ho, .ref pl_1, .int 0, .int (-1), .int (-1), .ref pl_5])), (ho, .inr (2, [.ref fl, .ref pe, .ref ru, .int 0, .ref ho_4, .ref ho_5, .ref ho_6, .int 0, .ref ho_8, .ref ho_9, .ref ho_10, .ref ho_11, .ref ho_12, .int 50])), (pe, .inr (3, [.int 0, .ref pe_1, .ref pe_2, .ref pe_3, .ref pe_4, .ref pe_5, .ref pe_6, .ref pe_7, .ref pe_8, .ref pe_9, .ref pe_10])), (fl, .inr (1, [.int 0, .int 0, .int 0, .ref fl_3, .ref fl_4, .ref fl_5, .ref fl_6, .ref fl_7])), (sk, .inr (9, [.ref pl, .int 0, .ref sk_2, .ref sk_3, .ref sk_4])), (sk_4, .inl (G.2.1, 5, .inl (fun _ => 0))), (sk_3, .inl (G.2.1, 12, .inl (fun _ => 0))), (sk_2, .inl (G.2.1, 12, .inl (fun _ => 0))), (pl_1, .inl (G.2.1, 12, .inl (fun _ => 0)))]) (As := [.int 3]) (rest := []) (b := x) (k1 := 0) (s1 := 0) F hK hP hD hS hA (k_X11_refuse l G x 3 x_0 sp stm pl sk se ch x_11 x_13 (vin (by decide +kernel))) kmV_X11_refuse mlX11_89 clX11 rfl 0 rfl ⟨(Nat.le_of_ble_eq_true rfl), (Nat.le_of_ble_eq_true rfl)⟩ [0, 10] [1, 2, 3, 4, 5, 6, 7, 8, 9] rfl rfl rfl rfl (by decide) hl.1 rfl (Nat.le_of_ble_eq_true rfl) dX11_better_24 ⟨(Nat.le_of_ble_eq_true rfl), (Nat.le_of_ble_eq_true rfl)⟩ rfl rfl (fun r6 u5 H locs hwr6 (hP : va_P G.1 vwCl [(pl, .inr (4, [.ref ho, .ref pl_1, .int 0, .int (-1), .int (-1), .ref pl_5])), (ho, .inr (2, [.ref fl, .ref pe, .ref ru, .int 0, .ref ho_4, .ref ho_5, .ref ho_6, .int 0, .ref ho_8, .ref ho_9, .ref ho_10, .ref ho_11, .ref ho_12, .int 50])), (pe, .inr (3, [.int 0, .ref pe_1, .ref pe_2, .ref pe_3, .ref pe_4, .ref pe_5, .ref pe_6, .ref pe_7, .ref pe_8, .ref pe_9, .ref pe_10])), (fl, .inr (1, [.int 0, .int 0, .int 0, .ref fl_3, .ref fl_4, .ref fl_5, .ref fl_6, .ref fl_7])), (sk, .inr (9, [.ref pl, .int 0, .ref sk_2, .ref sk_3, .ref sk_4])), (sk_4, .inl (G.2.1, 5, .inl (fun _ => 0))), (sk_3, .inl (G.2.1, 12, .inl (fun _ => 0))), (sk_2, .inl (G.2.1, 12, .inl (fun _ => 0))), (pl_1, .inl (G.2.1, 12, .inl (fun _ => 0))), (x, .inr (11, [.ref x_0, .int 0, .ref sp, .ref stm, .ref pl, .ref sk, .ref se, .ref ch, .int 0, .int (-1), .long 1, .ref x_11, .int 0, .ref x_13]))] H) (hD : va_D A [(pl, .inr (4, [.ref ho, .ref pl_1, .int 0, .int (-1), .int (-1), .ref pl_5])), (ho, .inr (2, [.ref fl, .ref pe, .ref ru, .int 0, .ref ho_4, .ref ho_5, .ref ho_6, .int 0, .ref ho_8, .ref ho_9, .ref ho_10, .ref ho_11, .ref ho_12, .int 50])), (pe, .inr (3, [.int 0, .ref pe_1, .ref pe_2, .ref pe_3, .ref pe_4, .ref pe_5, .ref pe_6, .ref pe_7, .ref pe_8, .ref pe_9, .ref pe_10])), (fl, .inr (1, [.int 0, .int 0, .int 0, .ref fl_3, .ref fl_4, .ref fl_5, .ref fl_6, .ref fl_7])), (sk, .inr (9, [.ref pl, .int 0, .ref sk_2, .ref sk_3, .ref sk_4])), (sk_4, .inl (G.2.1, 5, .inl (fun _ => 0))), (sk_3, .inl (G.2.1, 12, .inl (fun _ => 0))), (sk_2, .inl (G.2.1, 12, .inl (fun _ => 0))), (pl_1, .inl (G.2.1, 12, .inl (fun _ => 0))), (x, .inr (11, [.ref x_0, .int 0, .ref sp, .ref stm, .ref pl, .ref sk, .ref se, .ref ch, .int 0, .int (-1), .long 1, .ref x_11, .int 0, .ref x_13]))]) hS => ?_)
      subst hwr6
      exact r_i F hr hlk hP hD hS () [] rfl rfl (by simp [fBetter, c1, c4]) dX11_better_27 (Nat.le_of_ble_eq_true rfl) (Nat.le_of_ble_eq_true rfl)
    · refine lv_aload_n hx hb dX11_better_12 rfl (lv_at hl 0 rfl) ?_
      refine g_get F hK hP 0 rfl clX11 4 (by decide) flX11_43 rfl dX11_better_13 ?_
      refine cvi (wr := [(x, .inr (11, [.ref x_0, .int 0, .ref sp, .ref stm, .ref pl, .ref sk, .ref se, .ref ch, .int 0, .int (-1), .long 1, .ref x_11, .int 0, .ref x_13])), (sk, .inr (9, [.ref pl, .int 0, .ref sk_2, .ref sk_3, .ref sk_4])), (sk_4, .inl (G.2.1, 5, .inl (fun _ => 0))), (sk_3, .inl (G.2.1, 12, .inl (fun _ => 0))), (sk_2, .inl (G.2.1, 12, .inl (fun _ => 0))), (pl_1, .inl (G.2.1, 12, .inl (fun _ => 0))), (x_13, .inl (G.2.1, 6, .inl (fun _ => 0)))]) (As := []) (rest := []) (b := pl) (k1 := 0) (s1 := 0) F hK hP hD hS hA (k_X4_holds l G pl ho pl_1 pl_5 fl pe ru ho_4 ho_5 ho_6 ho_8 ho_9 ho_10 ho_11 ho_12 pe_1 pe_2 pe_3 pe_4 pe_5 pe_6 pe_7 pe_8 pe_9 pe_10 fl_3 fl_4 fl_5 fl_6 fl_7) kmV_X4_holds mlX11_272 clX4 rfl 0 rfl ⟨(Nat.le_of_ble_eq_true rfl), (Nat.le_of_ble_eq_true rfl)⟩ [1, 2, 3, 4] [0, 5, 6, 7, 8, 9, 10] rfl rfl rfl rfl (by decide) hl.1 rfl (Nat.le_of_ble_eq_true rfl) dX11_better_16 ⟨(Nat.le_of_ble_eq_true rfl), (Nat.le_of_ble_eq_true rfl)⟩ rfl rfl (fun r8 u7 H locs hwr8 (hP : va_P G.1 vwCl [(x, .inr (11, [.ref x_0, .int 0, .ref sp, .ref stm, .ref pl, .ref sk, .ref se, .ref ch, .int 0, .int (-1), .long 1, .ref x_11, .int 0, .ref x_13])), (sk, .inr (9, [.ref pl, .int 0, .ref sk_2, .ref sk_3, .ref sk_4])), (sk_4, .inl (G.2.1, 5, .inl (fun _ => 0))), (sk_3, .inl (G.2.1, 12, .inl (fun _ => 0))), (sk_2, .inl (G.2.1, 12, .inl (fun _ => 0))), (pl_1, .inl (G.2.1, 12, .inl (fun _ => 0))), (x_13, .inl (G.2.1, 6, .inl (fun _ => 0))), (pl, .inr (4, [.ref ho, .ref pl_1, .int 0, .int (-1), .int (-1), .ref pl_5])), (ho, .inr (2, [.ref fl, .ref pe, .ref ru, .int 0, .ref ho_4, .ref ho_5, .ref ho_6, .int 0, .ref ho_8, .ref ho_9, .ref ho_10, .ref ho_11, .ref ho_12, .int 50])), (pe, .inr (3, [.int 0, .ref pe_1, .ref pe_2, .ref pe_3, .ref pe_4, .ref pe_5, .ref pe_6, .ref pe_7, .ref pe_8, .ref pe_9, .ref pe_10])), (fl, .inr (1, [.int 0, .int 0, .int 0, .ref fl_3, .ref fl_4, .ref fl_5, .ref fl_6, .ref fl_7]))] H) (hD : va_D A [(x, .inr (11, [.ref x_0, .int 0, .ref sp, .ref stm, .ref pl, .ref sk, .ref se, .ref ch, .int 0, .int (-1), .long 1, .ref x_11, .int 0, .ref x_13])), (sk, .inr (9, [.ref pl, .int 0, .ref sk_2, .ref sk_3, .ref sk_4])), (sk_4, .inl (G.2.1, 5, .inl (fun _ => 0))), (sk_3, .inl (G.2.1, 12, .inl (fun _ => 0))), (sk_2, .inl (G.2.1, 12, .inl (fun _ => 0))), (pl_1, .inl (G.2.1, 12, .inl (fun _ => 0))), (x_13, .inl (G.2.1, 6, .inl (fun _ => 0))), (pl, .inr (4, [.ref ho, .ref pl_1, .int 0, .int (-1), .int (-1), .ref pl_5])), (ho, .inr (2, [.ref fl, .ref pe, .ref ru, .int 0, .ref ho_4, .ref ho_5, .ref ho_6, .int 0, .ref ho_8, .ref ho_9, .ref ho_10, .ref ho_11, .ref ho_12, .int 50])), (pe, .inr (3, [.int 0, .ref pe_1, .ref pe_2, .ref pe_3, .ref pe_4, .ref pe_5, .ref pe_6, .ref pe_7, .ref pe_8, .ref pe_9, .ref pe_10])), (fl, .inr (1, [.int 0, .int 0, .int 0, .ref fl_3, .ref fl_4, .ref fl_5, .ref fl_6, .ref fl_7]))]) hS => ?_)
      subst hwr8
      refine lv_if_ne (tgt := 28) hx hb dX11_better_19 (by decide) (fun _ => ?_) (fun h_ => absurd h_ (by decide +kernel))
      refine lv_aload_n hx hb dX11_better_28 rfl (lv_at hl 0 rfl) ?_
      refine g_get F hK hP 0 rfl clX11 5 (by decide) flX11_52 rfl dX11_better_29 ?_
      refine lv_iload_n hx hb dX11_better_32 rfl (lv_at hl 1 rfl) ?_
      refine cvi (wr := [(x, .inr (11, [.ref x_0, .int 0, .ref sp, .ref stm, .ref pl, .ref sk, .ref se, .ref ch, .int 0, .int (-1), .long 1, .ref x_11, .int 0, .ref x_13])), (sk_4, .inl (G.2.1, 5, .inl (fun _ => 0))), (sk_3, .inl (G.2.1, 12, .inl (fun _ => 0))), (sk_2, .inl (G.2.1, 12, .inl (fun _ => 0))), (pl_1, .inl (G.2.1, 12, .inl (fun _ => 0))), (x_13, .inl (G.2.1, 6, .inl (fun _ => 0))), (fl, .inr (1, [.int 0, .int 0, .int 0, .ref fl_3, .ref fl_4, .ref fl_5, .ref fl_6, .ref fl_7]))]) (As := [.int a]) (rest := []) (b := sk) (k1 := 0) (s1 := 0) F hK hP hD hS hA (k_X9_improve l G sk a pl sk_2 sk_3 sk_4 ho pl_1 pl_5 fl pe ru ho_4 ho_5 ho_6 ho_8 ho_9 ho_10 ho_11 ho_12 pe_1 pe_2 pe_3 pe_4 pe_5 pe_6 pe_7 pe_8 pe_9 pe_10) kmV_X9_improve mlX11_275 clX9 rfl 0 rfl ⟨(Nat.le_of_ble_eq_true rfl), (Nat.le_of_ble_eq_true rfl)⟩ [1, 7, 8, 9] [0, 2, 3, 4, 5, 6, 10] rfl rfl rfl rfl (by decide) hl.1 rfl (Nat.le_of_ble_eq_true rfl) dX11_better_33 ⟨(Nat.le_of_ble_eq_true rfl), (Nat.le_of_ble_eq_true rfl)⟩ rfl rfl (fun r10 u9 H locs hwr10 (hP : va_P G.1 vwCl [(x, .inr (11, [.ref x_0, .int 0, .ref sp, .ref stm, .ref pl, .ref sk, .ref se, .ref ch, .int 0, .int (-1), .long 1, .ref x_11, .int 0, .ref x_13])), (sk_4, .inl (G.2.1, 5, .inl (fun _ => 0))), (sk_3, .inl (G.2.1, 12, .inl (fun _ => 0))), (sk_2, .inl (G.2.1, 12, .inl (fun _ => 0))), (pl_1, .inl (G.2.1, 12, .inl (fun _ => 0))), (x_13, .inl (G.2.1, 6, .inl (fun _ => 0))), (fl, .inr (1, [.int 0, .int 0, .int 0, .ref fl_3, .ref fl_4, .ref fl_5, .ref fl_6, .ref fl_7]))] H) (hD : va_D A [(x, .inr (11, [.ref x_0, .int 0, .ref sp, .ref stm, .ref pl, .ref sk, .ref se, .ref ch, .int 0, .int (-1), .long 1, .ref x_11, .int 0, .ref x_13])), (sk_4, .inl (G.2.1, 5, .inl (fun _ => 0))), (sk_3, .inl (G.2.1, 12, .inl (fun _ => 0))), (sk_2, .inl (G.2.1, 12, .inl (fun _ => 0))), (pl_1, .inl (G.2.1, 12, .inl (fun _ => 0))), (x_13, .inl (G.2.1, 6, .inl (fun _ => 0))), (fl, .inr (1, [.int 0, .int 0, .int 0, .ref fl_3, .ref fl_4, .ref fl_5, .ref fl_6, .ref fl_7]))]) hS => ?_)
      subst hwr10
      exact r_i F hr hlk hP hD hS () [] rfl rfl (by simp [fBetter, c1, c4]) dX11_better_36 (Nat.le_of_ble_eq_true rfl) (Nat.le_of_ble_eq_true rfl)
set_option maxHeartbeats 4000000 in
set_option maxRecDepth 100000 in
theorem k_X4_roundsTillRest (l : Launch) (G : Gx) (pl : Nat) (a : Int32) (ho : Nat) (pl_1 : Nat) (pl_5 : Nat) (fl : Nat) (pe : Nat) (ru : Nat) (ho_4 : Nat) (ho_5 : Nat) (ho_6 : Nat) (ho_8 : Nat) (ho_9 : Nat) (ho_10 : Nat) (ho_11 : Nat) (ho_12 : Nat) (pe_1 : Nat) (pe_2 : Nat) (pe_3 : Nat) (pe_4 : Nat) (pe_5 : Nat) (pe_6 : Nat) (pe_7 : Nat) (pe_8 : Nat) (pe_9 : Nat) (pe_10 : Nat) (hm : ¬ a < 1) : CtI (S := Unit) l yX4_roundsTillRest cX4_roundsTillRest 3 (some .int) (rmD 2 0 0) G [.ref pl, .int a] [(pl, .inr (4, [.ref ho, .ref pl_1, .int 0, .int (-1), .int (-1), .ref pl_5])), (ho, .inr (2, [.ref fl, .ref pe, .ref ru, .int 0, .ref ho_4, .ref ho_5, .ref ho_6, .int 0, .ref ho_8, .ref ho_9, .ref ho_10, .ref ho_11, .ref ho_12, .int 50])), (pe, .inr (3, [.int 0, .ref pe_1, .ref pe_2, .ref pe_3, .ref pe_4, .ref pe_5, .ref pe_6, .ref pe_7, .ref pe_8, .ref pe_9, .ref pe_10]))] (fun r _ => r = 1) (fun _ => []) := by
  refine ctI_of (own := RX4) (by decide +kernel) rfl (Nat.le_of_ble_eq_true rfl) ?_
  intro p e s m below meth c A ls F hr hlk hnm hK hP hD hA hS hl
  have hx := F.1
  have hb := F.2.1
  have hown := F.2.2.2.1
  have hl : lv_has ls 3 [(0, .ref pl), (1, .int a)] := hl
  refine lv_iconst (v := 1) hx hb dX4_roundsTillRest_0 (by decide) ?_
  refine lv_istore_n (lv' := [(2, .int 1), (0, .ref pl), (1, .int a)]) hx hb dX4_roundsTillRest_1 rfl hl (by decide) rfl (fun ls hl => ?_)
  refine lv_iload_n hx hb dX4_roundsTillRest_2 rfl (lv_at hl 0 rfl) ?_
  refine lv_iload_n hx hb dX4_roundsTillRest_3 rfl (lv_at hl 2 rfl) ?_
  refine lv_icmp_gt (tgt := 22) hx hb dX4_roundsTillRest_4 (by decide) (fun h_ => absurd h_ hm) (fun _ => ?_)
  refine lv_aload_n hx hb dX4_roundsTillRest_7 rfl (lv_at hl 1 rfl) ?_
  refine cvi (wr := []) (As := []) (rest := []) (b := pl) (k1 := 0) (s1 := 0) F hK hP hD hS hA (k_X4_goRound l G pl ho pl_1 pl_5 fl pe ru ho_4 ho_5 ho_6 ho_8 ho_9 ho_10 ho_11 ho_12 pe_1 pe_2 pe_3 pe_4 pe_5 pe_6 pe_7 pe_8 pe_9 pe_10) kmV_X4_goRound mlX4_172 clX4 rfl 0 rfl ⟨(Nat.le_of_ble_eq_true rfl), (Nat.le_of_ble_eq_true rfl)⟩ [0, 1, 2] [] rfl rfl rfl rfl (by decide) hl.1 rfl (Nat.le_of_ble_eq_true rfl) dX4_roundsTillRest_8 ⟨(Nat.le_of_ble_eq_true rfl), (Nat.le_of_ble_eq_true rfl)⟩ rfl rfl (fun r2 u1 H locs hwr2 (hP : va_P G.1 vwCl [(pl, .inr (4, [.ref ho, .ref pl_1, .int 0, .int (-1), .int (-1), .ref pl_5])), (ho, .inr (2, [.ref fl, .ref pe, .ref ru, .int 0, .ref ho_4, .ref ho_5, .ref ho_6, .int 0, .ref ho_8, .ref ho_9, .ref ho_10, .ref ho_11, .ref ho_12, .int 50])), (pe, .inr (3, [.int 0, .ref pe_1, .ref pe_2, .ref pe_3, .ref pe_4, .ref pe_5, .ref pe_6, .ref pe_7, .ref pe_8, .ref pe_9, .ref pe_10]))] H) (hD : va_D A [(pl, .inr (4, [.ref ho, .ref pl_1, .int 0, .int (-1), .int (-1), .ref pl_5])), (ho, .inr (2, [.ref fl, .ref pe, .ref ru, .int 0, .ref ho_4, .ref ho_5, .ref ho_6, .int 0, .ref ho_8, .ref ho_9, .ref ho_10, .ref ho_11, .ref ho_12, .int 50])), (pe, .inr (3, [.int 0, .ref pe_1, .ref pe_2, .ref pe_3, .ref pe_4, .ref pe_5, .ref pe_6, .ref pe_7, .ref pe_8, .ref pe_9, .ref pe_10]))]) hS => ?_)
  subst hwr2
  refine lv_if_ne (tgt := 16) hx hb dX4_roundsTillRest_11 (by decide) (fun h_ => absurd (by decide +kernel) h_) (fun _ => ?_)
  refine lv_iload_n hx hb dX4_roundsTillRest_14 rfl (lv_at hl 0 rfl) ?_
  exact r_i F hr hlk hP hD hS () [] rfl rfl rfl dX4_roundsTillRest_15 (Nat.le_of_ble_eq_true rfl) (Nat.le_of_ble_eq_true rfl)
set_option maxHeartbeats 4000000 in
set_option maxRecDepth 100000 in
theorem k_X11_free (l : Launch) (G : Gx) (x : Nat) (a : Int32) (x_0 : Nat) (sp : Nat) (stm : Nat) (pl : Nat) (sk : Nat) (se : Nat) (ch : Nat) (x_11 : Nat) (x_13 : Nat) (ho : Nat) (pl_1 : Nat) (pl_5 : Nat) (fl : Nat) (pe : Nat) (ru : Nat) (ho_4 : Nat) (ho_5 : Nat) (ho_6 : Nat) (ho_8 : Nat) (ho_9 : Nat) (ho_10 : Nat) (ho_11 : Nat) (ho_12 : Nat) (pe_1 : Nat) (pe_2 : Nat) (pe_3 : Nat) (pe_4 : Nat) (pe_5 : Nat) (pe_6 : Nat) (pe_7 : Nat) (pe_8 : Nat) (pe_9 : Nat) (pe_10 : Nat) (fl_3 : Nat) (fl_4 : Nat) (fl_5 : Nat) (fl_6 : Nat) (fl_7 : Nat)  : CtI (S := Unit) l yX11_free cX11_free 2 (some .int) (rmD 3 0 0) G [.ref x, .int a] [(x, .inr (11, [.ref x_0, .int 0, .ref sp, .ref stm, .ref pl, .ref sk, .ref se, .ref ch, .int 0, .int (-1), .long 1, .ref x_11, .int 0, .ref x_13])), (pl, .inr (4, [.ref ho, .ref pl_1, .int 0, .int (-1), .int (-1), .ref pl_5])), (ho, .inr (2, [.ref fl, .ref pe, .ref ru, .int 0, .ref ho_4, .ref ho_5, .ref ho_6, .int 0, .ref ho_8, .ref ho_9, .ref ho_10, .ref ho_11, .ref ho_12, .int 50])), (pe, .inr (3, [.int 0, .ref pe_1, .ref pe_2, .ref pe_3, .ref pe_4, .ref pe_5, .ref pe_6, .ref pe_7, .ref pe_8, .ref pe_9, .ref pe_10])), (fl, .inr (1, [.int 0, .int 0, .int 0, .ref fl_3, .ref fl_4, .ref fl_5, .ref fl_6, .ref fl_7])), (x_13, .inl (G.2.1, 6, .inl (fun _ => 0)))] (fun r _ => r = fFree a) (fun _ => []) := by
  refine ctI_of (own := RX11) (by decide +kernel) rfl (Nat.le_of_ble_eq_true rfl) ?_
  intro p e s m below meth c A ls F hr hlk hnm hK hP hD hA hS hl
  have hx := F.1
  have hb := F.2.1
  have hown := F.2.2.2.1
  have hl : lv_has ls 2 [(0, .ref x), (1, .int a)] := hl
  refine lv_iload_n hx hb dX11_free_0 rfl (lv_at hl 1 rfl) ?_
  refine lv_iconst (v := 1) hx hb dX11_free_1 (by decide) ?_
  refine lv_icmp_lt (tgt := 11) hx hb dX11_free_2 (by decide) (fun c1 => ?_) (fun c1 => ?_)
  · refine lv_aload_n hx hb dX11_free_11 rfl (lv_at hl 0 rfl) ?_
    refine lv_iconst (v := 3) hx hb dX11_free_12 (by decide) ?_
    refine cvi (wr := [(pl, .inr (4, [.ref ho, .ref pl_1, .int 0, .int (-1), .int (-1), .ref pl_5])), (ho, .inr (2, [.ref fl, .ref pe, .ref ru, .int 0, .ref ho_4, .ref ho_5, .ref ho_6, .int 0, .ref ho_8, .ref ho_9, .ref ho_10, .ref ho_11, .ref ho_12, .int 50])), (pe, .inr (3, [.int 0, .ref pe_1, .ref pe_2, .ref pe_3, .ref pe_4, .ref pe_5, .ref pe_6, .ref pe_7, .ref pe_8, .ref pe_9, .ref pe_10])), (fl, .inr (1, [.int 0, .int 0, .int 0, .ref fl_3, .ref fl_4, .ref fl_5, .ref fl_6, .ref fl_7]))]) (As := [.int 3]) (rest := []) (b := x) (k1 := 0) (s1 := 0) F hK hP hD hS hA (k_X11_refuse l G x 3 x_0 sp stm pl sk se ch x_11 x_13 (vin (by decide +kernel))) kmV_X11_refuse mlX11_89 clX11 rfl 0 rfl ⟨(Nat.le_of_ble_eq_true rfl), (Nat.le_of_ble_eq_true rfl)⟩ [0, 5] [1, 2, 3, 4] rfl rfl rfl rfl (by decide) hl.1 rfl (Nat.le_of_ble_eq_true rfl) dX11_free_13 ⟨(Nat.le_of_ble_eq_true rfl), (Nat.le_of_ble_eq_true rfl)⟩ rfl rfl (fun r3 u2 H locs hwr3 (hP : va_P G.1 vwCl [(pl, .inr (4, [.ref ho, .ref pl_1, .int 0, .int (-1), .int (-1), .ref pl_5])), (ho, .inr (2, [.ref fl, .ref pe, .ref ru, .int 0, .ref ho_4, .ref ho_5, .ref ho_6, .int 0, .ref ho_8, .ref ho_9, .ref ho_10, .ref ho_11, .ref ho_12, .int 50])), (pe, .inr (3, [.int 0, .ref pe_1, .ref pe_2, .ref pe_3, .ref pe_4, .ref pe_5, .ref pe_6, .ref pe_7, .ref pe_8, .ref pe_9, .ref pe_10])), (fl, .inr (1, [.int 0, .int 0, .int 0, .ref fl_3, .ref fl_4, .ref fl_5, .ref fl_6, .ref fl_7])), (x, .inr (11, [.ref x_0, .int 0, .ref sp, .ref stm, .ref pl, .ref sk, .ref se, .ref ch, .int 0, .int (-1), .long 1, .ref x_11, .int 0, .ref x_13]))] H) (hD : va_D A [(pl, .inr (4, [.ref ho, .ref pl_1, .int 0, .int (-1), .int (-1), .ref pl_5])), (ho, .inr (2, [.ref fl, .ref pe, .ref ru, .int 0, .ref ho_4, .ref ho_5, .ref ho_6, .int 0, .ref ho_8, .ref ho_9, .ref ho_10, .ref ho_11, .ref ho_12, .int 50])), (pe, .inr (3, [.int 0, .ref pe_1, .ref pe_2, .ref pe_3, .ref pe_4, .ref pe_5, .ref pe_6, .ref pe_7, .ref pe_8, .ref pe_9, .ref pe_10])), (fl, .inr (1, [.int 0, .int 0, .int 0, .ref fl_3, .ref fl_4, .ref fl_5, .ref fl_6, .ref fl_7])), (x, .inr (11, [.ref x_0, .int 0, .ref sp, .ref stm, .ref pl, .ref sk, .ref se, .ref ch, .int 0, .int (-1), .long 1, .ref x_11, .int 0, .ref x_13]))]) hS => ?_)
    subst hwr3
    exact r_i F hr hlk hP hD hS () [] rfl rfl (by simp [fFree, c1]) dX11_free_16 (Nat.le_of_ble_eq_true rfl) (Nat.le_of_ble_eq_true rfl)
  · refine lv_iload_n hx hb dX11_free_5 rfl (lv_at hl 1 rfl) ?_
    refine lv_bipush (v := 60) hx hb dX11_free_6 (by decide) ?_
    refine lv_icmp_le (tgt := 17) hx hb dX11_free_8 (by decide) (fun c4 => ?_) (fun c4 => ?_)
    · refine lv_aload_n hx hb dX11_free_17 rfl (lv_at hl 0 rfl) ?_
      refine g_get F hK hP 0 rfl clX11 4 (by decide) flX11_43 rfl dX11_free_18 ?_
      refine lv_iload_n hx hb dX11_free_21 rfl (lv_at hl 1 rfl) ?_
      refine cvi (wr := [(x, .inr (11, [.ref x_0, .int 0, .ref sp, .ref stm, .ref pl, .ref sk, .ref se, .ref ch, .int 0, .int (-1), .long 1, .ref x_11, .int 0, .ref x_13])), (fl, .inr (1, [.int 0, .int 0, .int 0, .ref fl_3, .ref fl_4, .ref fl_5, .ref fl_6, .ref fl_7])), (x_13, .inl (G.2.1, 6, .inl (fun _ => 0)))]) (As := [.int a]) (rest := []) (b := pl) (k1 := 0) (s1 := 0) F hK hP hD hS hA (k_X4_roundsTillRest l G pl a ho pl_1 pl_5 fl pe ru ho_4 ho_5 ho_6 ho_8 ho_9 ho_10 ho_11 ho_12 pe_1 pe_2 pe_3 pe_4 pe_5 pe_6 pe_7 pe_8 pe_9 pe_10 c1) kmV_X4_roundsTillRest mlX11_347 clX4 rfl 0 rfl ⟨(Nat.le_of_ble_eq_true rfl), (Nat.le_of_ble_eq_true rfl)⟩ [1, 2, 3] [0, 4, 5] rfl rfl rfl rfl (by decide) hl.1 rfl (Nat.le_of_ble_eq_true rfl) dX11_free_22 ⟨(Nat.le_of_ble_eq_true rfl), (Nat.le_of_ble_eq_true rfl)⟩ rfl rfl (fun r6 u5 H locs hwr6 (hP : va_P G.1 vwCl [(x, .inr (11, [.ref x_0, .int 0, .ref sp, .ref stm, .ref pl, .ref sk, .ref se, .ref ch, .int 0, .int (-1), .long 1, .ref x_11, .int 0, .ref x_13])), (fl, .inr (1, [.int 0, .int 0, .int 0, .ref fl_3, .ref fl_4, .ref fl_5, .ref fl_6, .ref fl_7])), (x_13, .inl (G.2.1, 6, .inl (fun _ => 0)))] H) (hD : va_D A [(x, .inr (11, [.ref x_0, .int 0, .ref sp, .ref stm, .ref pl, .ref sk, .ref se, .ref ch, .int 0, .int (-1), .long 1, .ref x_11, .int 0, .ref x_13])), (fl, .inr (1, [.int 0, .int 0, .int 0, .ref fl_3, .ref fl_4, .ref fl_5, .ref fl_6, .ref fl_7])), (x_13, .inl (G.2.1, 6, .inl (fun _ => 0)))]) hS => ?_)
      subst hwr6
      exact r_i F hr hlk hP hD hS () [] rfl rfl (by simp [fFree, c1, c4]) dX11_free_25 (Nat.le_of_ble_eq_true rfl) (Nat.le_of_ble_eq_true rfl)
    · refine lv_aload_n hx hb dX11_free_11 rfl (lv_at hl 0 rfl) ?_
      refine lv_iconst (v := 3) hx hb dX11_free_12 (by decide) ?_
      refine cvi (wr := [(pl, .inr (4, [.ref ho, .ref pl_1, .int 0, .int (-1), .int (-1), .ref pl_5])), (ho, .inr (2, [.ref fl, .ref pe, .ref ru, .int 0, .ref ho_4, .ref ho_5, .ref ho_6, .int 0, .ref ho_8, .ref ho_9, .ref ho_10, .ref ho_11, .ref ho_12, .int 50])), (pe, .inr (3, [.int 0, .ref pe_1, .ref pe_2, .ref pe_3, .ref pe_4, .ref pe_5, .ref pe_6, .ref pe_7, .ref pe_8, .ref pe_9, .ref pe_10])), (fl, .inr (1, [.int 0, .int 0, .int 0, .ref fl_3, .ref fl_4, .ref fl_5, .ref fl_6, .ref fl_7]))]) (As := [.int 3]) (rest := []) (b := x) (k1 := 0) (s1 := 0) F hK hP hD hS hA (k_X11_refuse l G x 3 x_0 sp stm pl sk se ch x_11 x_13 (vin (by decide +kernel))) kmV_X11_refuse mlX11_89 clX11 rfl 0 rfl ⟨(Nat.le_of_ble_eq_true rfl), (Nat.le_of_ble_eq_true rfl)⟩ [0, 5] [1, 2, 3, 4] rfl rfl rfl rfl (by decide) hl.1 rfl (Nat.le_of_ble_eq_true rfl) dX11_free_13 ⟨(Nat.le_of_ble_eq_true rfl), (Nat.le_of_ble_eq_true rfl)⟩ rfl rfl (fun r8 u7 H locs hwr8 (hP : va_P G.1 vwCl [(pl, .inr (4, [.ref ho, .ref pl_1, .int 0, .int (-1), .int (-1), .ref pl_5])), (ho, .inr (2, [.ref fl, .ref pe, .ref ru, .int 0, .ref ho_4, .ref ho_5, .ref ho_6, .int 0, .ref ho_8, .ref ho_9, .ref ho_10, .ref ho_11, .ref ho_12, .int 50])), (pe, .inr (3, [.int 0, .ref pe_1, .ref pe_2, .ref pe_3, .ref pe_4, .ref pe_5, .ref pe_6, .ref pe_7, .ref pe_8, .ref pe_9, .ref pe_10])), (fl, .inr (1, [.int 0, .int 0, .int 0, .ref fl_3, .ref fl_4, .ref fl_5, .ref fl_6, .ref fl_7])), (x, .inr (11, [.ref x_0, .int 0, .ref sp, .ref stm, .ref pl, .ref sk, .ref se, .ref ch, .int 0, .int (-1), .long 1, .ref x_11, .int 0, .ref x_13]))] H) (hD : va_D A [(pl, .inr (4, [.ref ho, .ref pl_1, .int 0, .int (-1), .int (-1), .ref pl_5])), (ho, .inr (2, [.ref fl, .ref pe, .ref ru, .int 0, .ref ho_4, .ref ho_5, .ref ho_6, .int 0, .ref ho_8, .ref ho_9, .ref ho_10, .ref ho_11, .ref ho_12, .int 50])), (pe, .inr (3, [.int 0, .ref pe_1, .ref pe_2, .ref pe_3, .ref pe_4, .ref pe_5, .ref pe_6, .ref pe_7, .ref pe_8, .ref pe_9, .ref pe_10])), (fl, .inr (1, [.int 0, .int 0, .int 0, .ref fl_3, .ref fl_4, .ref fl_5, .ref fl_6, .ref fl_7])), (x, .inr (11, [.ref x_0, .int 0, .ref sp, .ref stm, .ref pl, .ref sk, .ref se, .ref ch, .int 0, .int (-1), .long 1, .ref x_11, .int 0, .ref x_13]))]) hS => ?_)
      subst hwr8
      exact r_i F hr hlk hP hD hS () [] rfl rfl (by simp [fFree, c1, c4]) dX11_free_16 (Nat.le_of_ble_eq_true rfl) (Nat.le_of_ble_eq_true rfl)
set_option maxHeartbeats 4000000 in
set_option maxRecDepth 100000 in
theorem k_X11_checkByte (l : Launch) (G : Gx) (b : Nat) (f : Nat → Int32)  : CtI (S := Unit) l yX11_checkByte cX11_checkByte 4 (some .int) (rmD 1 0 0) G [.ref b, .int 1] [(b, .inl (G.2.1, 14, .inl f))] (fun _ _ => True) (fun _ => [(b, .inl (G.2.1, 14, .inl f))]) := by
  refine ctI_of (own := RX11) (by decide +kernel) rfl (Nat.le_of_ble_eq_true rfl) ?_
  intro p e s m below meth c A ls F hr hlk hnm hK hP hD hA hS hl
  have hx := F.1
  have hb := F.2.1
  have hown := F.2.2.2.1
  have hl : lv_has ls 4 [(0, .ref b), (1, .int 1)] := hl
  refine lv_bipush (v := 31) hx hb dX11_checkByte_0 (by decide) ?_
  refine lv_istore_n (lv' := [(2, .int 31), (0, .ref b), (1, .int 1)]) hx hb dX11_checkByte_2 rfl hl (by decide) rfl (fun ls hl => ?_)
  refine lv_iconst (v := 0) hx hb dX11_checkByte_3 (by decide) ?_
  refine lv_istore_n (lv' := [(3, .int 0), (2, .int 31), (0, .ref b), (1, .int 1)]) hx hb dX11_checkByte_4 rfl hl (by decide) rfl (fun ls hl => ?_)
  refine lv_iload_n hx hb dX11_checkByte_5 rfl (lv_at hl 0 rfl) ?_
  refine lv_iload_n hx hb dX11_checkByte_6 rfl (lv_at hl 3 rfl) ?_
  refine lv_icmp_ge (tgt := 34) hx hb dX11_checkByte_7 (by decide) (fun h_ => absurd h_ (by decide +kernel)) (fun _ => ?_)
  refine lv_iload_n hx hb dX11_checkByte_10 rfl (lv_at hl 0 rfl) ?_
  refine lv_aload_n hx hb dX11_checkByte_11 rfl (lv_at hl 2 rfl) ?_
  refine g_ialen (v := 14) F hK hP 0 rfl rfl dX11_checkByte_12 ?_
  refine lv_icmp_ge (tgt := 34) hx hb dX11_checkByte_13 (by decide) (fun h_ => absurd h_ (by decide +kernel)) (fun _ => ?_)
  refine lv_iconst (v := 5) hx hb dX11_checkByte_16 (by decide) ?_
  refine lv_iload_n hx hb dX11_checkByte_17 rfl (lv_at hl 1 rfl) ?_
  refine lv_imul hx hb dX11_checkByte_18 ?_
  refine cst_i (y := 155) (by decide +kernel) ?_
  refine lv_aload_n hx hb dX11_checkByte_19 rfl (lv_at hl 2 rfl) ?_
  refine lv_iload_n hx hb dX11_checkByte_20 rfl (lv_at hl 0 rfl) ?_
  refine g_iald (v := (f (Int32.toNatClampNeg 0))) F hK hP 0 rfl (vin (by decide +kernel)) dX11_checkByte_21 rfl ?_
  refine lv_iadd hx hb dX11_checkByte_22 ?_
  refine lv_topi (fun x1 ex1 => ?_)
  refine lv_sipush (v := 227) hx hb dX11_checkByte_23 (by decide) ?_
  refine lv_irem hx hb dX11_checkByte_26 (by decide) ?_
  refine lv_topi (fun x2 ex2 => ?_)
  refine lv_istore_n (lv' := [(2, .int x2), (3, .int 0), (0, .ref b), (1, .int 1)]) hx hb dX11_checkByte_27 rfl hl (by decide) rfl (fun ls hl => ?_)
  refine lv_iinc (v := 1) (lv' := [(3, .int 1), (2, .int x2), (0, .ref b), (1, .int 1)]) hx hb dX11_checkByte_28 hl (k := 1) rfl (by decide +kernel) (by decide) rfl (fun ls hl => ?_)
  refine lv_goto (tgt := 5) hx hb dX11_checkByte_31 (by decide) ?_
  refine lv_iload_n hx hb dX11_checkByte_5 rfl (lv_at hl 0 rfl) ?_
  refine lv_iload_n hx hb dX11_checkByte_6 rfl (lv_at hl 3 rfl) ?_
  refine lv_icmp_ge (tgt := 34) hx hb dX11_checkByte_7 (by decide) (fun _ => ?_) (fun h_ => absurd (by decide +kernel) h_)
  refine lv_iload_n hx hb dX11_checkByte_34 rfl (lv_at hl 1 rfl) ?_
  exact r_i F hr hlk hP hD hS () [0] rfl rfl trivial dX11_checkByte_35 (Nat.le_of_ble_eq_true rfl) (Nat.le_of_ble_eq_true rfl)
set_option maxHeartbeats 4000000 in
set_option maxRecDepth 100000 in
theorem k_X11_image (l : Launch) (G : Gx) (x : Nat) (x_0 : Nat) (sp : Nat) (stm : Nat) (pl : Nat) (sk : Nat) (se : Nat) (ch : Nat) (x_11 : Nat) (x_13 : Nat) (ho : Nat) (pl_1 : Nat) (pl_5 : Nat) (fl : Nat) (pe : Nat) (ru : Nat) (ho_4 : Nat) (ho_5 : Nat) (ho_6 : Nat) (ho_8 : Nat) (ho_9 : Nat) (ho_10 : Nat) (ho_11 : Nat) (ho_12 : Nat) (pe_1 : Nat) (pe_2 : Nat) (pe_3 : Nat) (pe_4 : Nat) (pe_5 : Nat) (pe_6 : Nat) (pe_7 : Nat) (pe_8 : Nat) (pe_9 : Nat) (pe_10 : Nat) (fl_3 : Nat) (fl_4 : Nat) (fl_5 : Nat) (fl_6 : Nat) (fl_7 : Nat)  : CtI (S := Unit) l yX11_image cX11_image 3 (some .int) (rmD 2 0 0) G [.ref x] [(x, .inr (11, [.ref x_0, .int 0, .ref sp, .ref stm, .ref pl, .ref sk, .ref se, .ref ch, .int 0, .int (-1), .long 1, .ref x_11, .int 0, .ref x_13])), (pl, .inr (4, [.ref ho, .ref pl_1, .int 0, .int (-1), .int (-1), .ref pl_5])), (ho, .inr (2, [.ref fl, .ref pe, .ref ru, .int 0, .ref ho_4, .ref ho_5, .ref ho_6, .int 0, .ref ho_8, .ref ho_9, .ref ho_10, .ref ho_11, .ref ho_12, .int 50])), (pe, .inr (3, [.int 0, .ref pe_1, .ref pe_2, .ref pe_3, .ref pe_4, .ref pe_5, .ref pe_6, .ref pe_7, .ref pe_8, .ref pe_9, .ref pe_10])), (fl, .inr (1, [.int 0, .int 0, .int 0, .ref fl_3, .ref fl_4, .ref fl_5, .ref fl_6, .ref fl_7])), (x_11, .inl (G.2.1, 14, .inl (fun _ => 0)))] (fun r _ => r = 2) (fun _ => []) := by
  refine ctI_of (own := RX11) (by decide +kernel) rfl (Nat.le_of_ble_eq_true rfl) ?_
  intro p e s m below meth c A ls F hr hlk hnm hK hP hD hA hS hl
  have hx := F.1
  have hb := F.2.1
  have hown := F.2.2.2.1
  have hl : lv_has ls 3 [(0, .ref x)] := hl
  refine lv_aload_n hx hb dX11_image_0 rfl (lv_at hl 0 rfl) ?_
  refine g_get F hK hP 0 rfl clX11 4 (by decide) flX11_43 rfl dX11_image_1 ?_
  refine g_get F hK hP 1 rfl clX4 0 (by decide) flX11_121 rfl dX11_image_4 ?_
  refine g_get F hK hP 2 rfl clX2 1 (by decide) flX11_139 rfl dX11_image_7 ?_
  refine g_get F hK hP 3 rfl clX3 0 (by decide) flX11_143 rfl dX11_image_10 ?_
  refine lv_istore_n (lv' := [(1, .int 0), (0, .ref x)]) hx hb dX11_image_13 rfl hl (by decide) rfl (fun ls hl => ?_)
  refine lv_aload_n hx hb dX11_image_14 rfl (lv_at hl 1 rfl) ?_
  refine g_get F hK hP 0 rfl clX11 11 (by decide) flX11_80 rfl dX11_image_15 ?_
  refine lv_iconst (v := 0) hx hb dX11_image_18 (by decide) ?_
  refine lv_iload_n hx hb dX11_image_19 rfl (lv_at hl 0 rfl) ?_
  refine g_iast F hK hP hD hS 5 rfl (vin (by decide +kernel)) dX11_image_20 (fun f_ => [(x, .inr (11, [.ref x_0, .int 0, .ref sp, .ref stm, .ref pl, .ref sk, .ref se, .ref ch, .int 0, .int (-1), .long 1, .ref x_11, .int 0, .ref x_13])), (pl, .inr (4, [.ref ho, .ref pl_1, .int 0, .int (-1), .int (-1), .ref pl_5])), (ho, .inr (2, [.ref fl, .ref pe, .ref ru, .int 0, .ref ho_4, .ref ho_5, .ref ho_6, .int 0, .ref ho_8, .ref ho_9, .ref ho_10, .ref ho_11, .ref ho_12, .int 50])), (pe, .inr (3, [.int 0, .ref pe_1, .ref pe_2, .ref pe_3, .ref pe_4, .ref pe_5, .ref pe_6, .ref pe_7, .ref pe_8, .ref pe_9, .ref pe_10])), (fl, .inr (1, [.int 0, .int 0, .int 0, .ref fl_3, .ref fl_4, .ref fl_5, .ref fl_6, .ref fl_7])), (x_11, .inl (G.2.1, 14, .inl f_))]) (fun _ => rfl) (fun f1 H locs ef1 (hP : va_P G.1 vwCl [(x, .inr (11, [.ref x_0, .int 0, .ref sp, .ref stm, .ref pl, .ref sk, .ref se, .ref ch, .int 0, .int (-1), .long 1, .ref x_11, .int 0, .ref x_13])), (pl, .inr (4, [.ref ho, .ref pl_1, .int 0, .int (-1), .int (-1), .ref pl_5])), (ho, .inr (2, [.ref fl, .ref pe, .ref ru, .int 0, .ref ho_4, .ref ho_5, .ref ho_6, .int 0, .ref ho_8, .ref ho_9, .ref ho_10, .ref ho_11, .ref ho_12, .int 50])), (pe, .inr (3, [.int 0, .ref pe_1, .ref pe_2, .ref pe_3, .ref pe_4, .ref pe_5, .ref pe_6, .ref pe_7, .ref pe_8, .ref pe_9, .ref pe_10])), (fl, .inr (1, [.int 0, .int 0, .int 0, .ref fl_3, .ref fl_4, .ref fl_5, .ref fl_6, .ref fl_7])), (x_11, .inl (G.2.1, 14, .inl f1))] H) (hD : va_D A [(x, .inr (11, [.ref x_0, .int 0, .ref sp, .ref stm, .ref pl, .ref sk, .ref se, .ref ch, .int 0, .int (-1), .long 1, .ref x_11, .int 0, .ref x_13])), (pl, .inr (4, [.ref ho, .ref pl_1, .int 0, .int (-1), .int (-1), .ref pl_5])), (ho, .inr (2, [.ref fl, .ref pe, .ref ru, .int 0, .ref ho_4, .ref ho_5, .ref ho_6, .int 0, .ref ho_8, .ref ho_9, .ref ho_10, .ref ho_11, .ref ho_12, .int 50])), (pe, .inr (3, [.int 0, .ref pe_1, .ref pe_2, .ref pe_3, .ref pe_4, .ref pe_5, .ref pe_6, .ref pe_7, .ref pe_8, .ref pe_9, .ref pe_10])), (fl, .inr (1, [.int 0, .int 0, .int 0, .ref fl_3, .ref fl_4, .ref fl_5, .ref fl_6, .ref fl_7])), (x_11, .inl (G.2.1, 14, .inl f1))]) hS => ?_)
  refine lv_iconst (v := 0) hx hb dX11_image_21 (by decide) ?_
  refine lv_istore_n (lv' := [(2, .int 0), (1, .int 0), (0, .ref x)]) hx hb dX11_image_22 rfl hl (by decide) rfl (fun ls hl => ?_)
  refine lv_iload_n hx hb dX11_image_23 rfl (lv_at hl 0 rfl) ?_
  refine lv_iload_n hx hb dX11_image_24 rfl (lv_at hl 1 rfl) ?_
  refine lv_icmp_ge (tgt := 51) hx hb dX11_image_25 (by decide) (fun _ => ?_) (fun h_ => absurd (by decide +kernel) h_)
  refine lv_aload_n hx hb dX11_image_51 rfl (lv_at hl 2 rfl) ?_
  refine g_get F hK hP 0 rfl clX11 11 (by decide) flX11_80 rfl dX11_image_52 ?_
  refine lv_iload_n hx hb dX11_image_55 rfl (lv_at hl 1 rfl) ?_
  refine lv_iconst (v := 1) hx hb dX11_image_56 (by decide) ?_
  refine lv_iadd hx hb dX11_image_57 ?_
  refine cst_i (y := 1) (by decide +kernel) ?_
  refine lv_aload_n hx hb dX11_image_58 rfl (lv_at hl 2 rfl) ?_
  refine g_get F hK hP 0 rfl clX11 11 (by decide) flX11_80 rfl dX11_image_59 ?_
  refine lv_iload_n hx hb dX11_image_62 rfl (lv_at hl 1 rfl) ?_
  refine lv_iconst (v := 1) hx hb dX11_image_63 (by decide) ?_
  refine lv_iadd hx hb dX11_image_64 ?_
  refine cst_i (y := 1) (by decide +kernel) ?_
  refine csi (wr := [(x, .inr (11, [.ref x_0, .int 0, .ref sp, .ref stm, .ref pl, .ref sk, .ref se, .ref ch, .int 0, .int (-1), .long 1, .ref x_11, .int 0, .ref x_13])), (pl, .inr (4, [.ref ho, .ref pl_1, .int 0, .int (-1), .int (-1), .ref pl_5])), (ho, .inr (2, [.ref fl, .ref pe, .ref ru, .int 0, .ref ho_4, .ref ho_5, .ref ho_6, .int 0, .ref ho_8, .ref ho_9, .ref ho_10, .ref ho_11, .ref ho_12, .int 50])), (pe, .inr (3, [.int 0, .ref pe_1, .ref pe_2, .ref pe_3, .ref pe_4, .ref pe_5, .ref pe_6, .ref pe_7, .ref pe_8, .ref pe_9, .ref pe_10])), (fl, .inr (1, [.int 0, .int 0, .int 0, .ref fl_3, .ref fl_4, .ref fl_5, .ref fl_6, .ref fl_7]))]) (As := [.ref x_11, .int 1]) (rest := [.int 1, .ref x_11]) (k1 := 0) (s1 := 0) F hK hP hD hS hA (k_X11_checkByte l G x_11 f1) kmS_X11_checkByte mlX11_373 ⟨(Nat.le_of_ble_eq_true rfl), (Nat.le_of_ble_eq_true rfl)⟩ [5] [0, 1, 2, 3, 4] rfl rfl rfl rfl (by decide) hl.1 rfl (Nat.le_of_ble_eq_true rfl) dX11_image_65 ⟨(Nat.le_of_ble_eq_true rfl), (Nat.le_of_ble_eq_true rfl)⟩ rfl rfl (fun r3 u2 H locs hwr3 (hP : va_P G.1 vwCl [(x, .inr (11, [.ref x_0, .int 0, .ref sp, .ref stm, .ref pl, .ref sk, .ref se, .ref ch, .int 0, .int (-1), .long 1, .ref x_11, .int 0, .ref x_13])), (pl, .inr (4, [.ref ho, .ref pl_1, .int 0, .int (-1), .int (-1), .ref pl_5])), (ho, .inr (2, [.ref fl, .ref pe, .ref ru, .int 0, .ref ho_4, .ref ho_5, .ref ho_6, .int 0, .ref ho_8, .ref ho_9, .ref ho_10, .ref ho_11, .ref ho_12, .int 50])), (pe, .inr (3, [.int 0, .ref pe_1, .ref pe_2, .ref pe_3, .ref pe_4, .ref pe_5, .ref pe_6, .ref pe_7, .ref pe_8, .ref pe_9, .ref pe_10])), (fl, .inr (1, [.int 0, .int 0, .int 0, .ref fl_3, .ref fl_4, .ref fl_5, .ref fl_6, .ref fl_7])), (x_11, .inl (G.2.1, 14, .inl f1))] H) (hD : va_D A [(x, .inr (11, [.ref x_0, .int 0, .ref sp, .ref stm, .ref pl, .ref sk, .ref se, .ref ch, .int 0, .int (-1), .long 1, .ref x_11, .int 0, .ref x_13])), (pl, .inr (4, [.ref ho, .ref pl_1, .int 0, .int (-1), .int (-1), .ref pl_5])), (ho, .inr (2, [.ref fl, .ref pe, .ref ru, .int 0, .ref ho_4, .ref ho_5, .ref ho_6, .int 0, .ref ho_8, .ref ho_9, .ref ho_10, .ref ho_11, .ref ho_12, .int 50])), (pe, .inr (3, [.int 0, .ref pe_1, .ref pe_2, .ref pe_3, .ref pe_4, .ref pe_5, .ref pe_6, .ref pe_7, .ref pe_8, .ref pe_9, .ref pe_10])), (fl, .inr (1, [.int 0, .int 0, .int 0, .ref fl_3, .ref fl_4, .ref fl_5, .ref fl_6, .ref fl_7])), (x_11, .inl (G.2.1, 14, .inl f1))]) hS => ?_)
  refine g_iast F hK hP hD hS 5 rfl (vin (by decide +kernel)) dX11_image_68 (fun f_ => [(x, .inr (11, [.ref x_0, .int 0, .ref sp, .ref stm, .ref pl, .ref sk, .ref se, .ref ch, .int 0, .int (-1), .long 1, .ref x_11, .int 0, .ref x_13])), (pl, .inr (4, [.ref ho, .ref pl_1, .int 0, .int (-1), .int (-1), .ref pl_5])), (ho, .inr (2, [.ref fl, .ref pe, .ref ru, .int 0, .ref ho_4, .ref ho_5, .ref ho_6, .int 0, .ref ho_8, .ref ho_9, .ref ho_10, .ref ho_11, .ref ho_12, .int 50])), (pe, .inr (3, [.int 0, .ref pe_1, .ref pe_2, .ref pe_3, .ref pe_4, .ref pe_5, .ref pe_6, .ref pe_7, .ref pe_8, .ref pe_9, .ref pe_10])), (fl, .inr (1, [.int 0, .int 0, .int 0, .ref fl_3, .ref fl_4, .ref fl_5, .ref fl_6, .ref fl_7])), (x_11, .inl (G.2.1, 14, .inl f_))]) (fun _ => rfl) (fun f4 H locs ef4 (hP : va_P G.1 vwCl [(x, .inr (11, [.ref x_0, .int 0, .ref sp, .ref stm, .ref pl, .ref sk, .ref se, .ref ch, .int 0, .int (-1), .long 1, .ref x_11, .int 0, .ref x_13])), (pl, .inr (4, [.ref ho, .ref pl_1, .int 0, .int (-1), .int (-1), .ref pl_5])), (ho, .inr (2, [.ref fl, .ref pe, .ref ru, .int 0, .ref ho_4, .ref ho_5, .ref ho_6, .int 0, .ref ho_8, .ref ho_9, .ref ho_10, .ref ho_11, .ref ho_12, .int 50])), (pe, .inr (3, [.int 0, .ref pe_1, .ref pe_2, .ref pe_3, .ref pe_4, .ref pe_5, .ref pe_6, .ref pe_7, .ref pe_8, .ref pe_9, .ref pe_10])), (fl, .inr (1, [.int 0, .int 0, .int 0, .ref fl_3, .ref fl_4, .ref fl_5, .ref fl_6, .ref fl_7])), (x_11, .inl (G.2.1, 14, .inl f4))] H) (hD : va_D A [(x, .inr (11, [.ref x_0, .int 0, .ref sp, .ref stm, .ref pl, .ref sk, .ref se, .ref ch, .int 0, .int (-1), .long 1, .ref x_11, .int 0, .ref x_13])), (pl, .inr (4, [.ref ho, .ref pl_1, .int 0, .int (-1), .int (-1), .ref pl_5])), (ho, .inr (2, [.ref fl, .ref pe, .ref ru, .int 0, .ref ho_4, .ref ho_5, .ref ho_6, .int 0, .ref ho_8, .ref ho_9, .ref ho_10, .ref ho_11, .ref ho_12, .int 50])), (pe, .inr (3, [.int 0, .ref pe_1, .ref pe_2, .ref pe_3, .ref pe_4, .ref pe_5, .ref pe_6, .ref pe_7, .ref pe_8, .ref pe_9, .ref pe_10])), (fl, .inr (1, [.int 0, .int 0, .int 0, .ref fl_3, .ref fl_4, .ref fl_5, .ref fl_6, .ref fl_7])), (x_11, .inl (G.2.1, 14, .inl f4))]) hS => ?_)
  refine lv_aload_n hx hb dX11_image_69 rfl (lv_at hl 2 rfl) ?_
  refine lv_iload_n hx hb dX11_image_70 rfl (lv_at hl 1 rfl) ?_
  refine lv_iconst (v := 2) hx hb dX11_image_71 (by decide) ?_
  refine lv_iadd hx hb dX11_image_72 ?_
  refine cst_i (y := 2) (by decide +kernel) ?_
  refine g_put (w' := [(x, .inr (11, [.ref x_0, .int 0, .ref sp, .ref stm, .ref pl, .ref sk, .ref se, .ref ch, .int 0, .int (-1), .long 1, .ref x_11, .int 2, .ref x_13])), (pl, .inr (4, [.ref ho, .ref pl_1, .int 0, .int (-1), .int (-1), .ref pl_5])), (ho, .inr (2, [.ref fl, .ref pe, .ref ru, .int 0, .ref ho_4, .ref ho_5, .ref ho_6, .int 0, .ref ho_8, .ref ho_9, .ref ho_10, .ref ho_11, .ref ho_12, .int 50])), (pe, .inr (3, [.int 0, .ref pe_1, .ref pe_2, .ref pe_3, .ref pe_4, .ref pe_5, .ref pe_6, .ref pe_7, .ref pe_8, .ref pe_9, .ref pe_10])), (fl, .inr (1, [.int 0, .int 0, .int 0, .ref fl_3, .ref fl_4, .ref fl_5, .ref fl_6, .ref fl_7])), (x_11, .inl (G.2.1, 14, .inl f4))]) F hK hP hD hS 0 rfl clX11 12 (by decide) flX11_83 rfl rfl rfl (Nat.le_of_ble_eq_true rfl) dX11_image_73 rfl (fun H locs hP hD hS => ?_)
  refine lv_aload_n hx hb dX11_image_76 rfl (lv_at hl 2 rfl) ?_
  refine g_get F hK hP 0 rfl clX11 12 (by decide) flX11_83 rfl dX11_image_77 ?_
  exact r_i F hr hlk hP hD hS () [] rfl rfl rfl dX11_image_80 (Nat.le_of_ble_eq_true rfl) (Nat.le_of_ble_eq_true rfl)
set_option maxHeartbeats 4000000 in
set_option maxRecDepth 100000 in
theorem k_X11_isImage (l : Launch) (G : Gx) (x : Nat) (x_0 : Nat) (sp : Nat) (stm : Nat) (pl : Nat) (sk : Nat) (se : Nat) (ch : Nat) (x_11 : Nat) (x_13 : Nat) (ho : Nat) (pl_1 : Nat) (pl_5 : Nat) (fl : Nat) (pe : Nat) (ru : Nat) (ho_4 : Nat) (ho_5 : Nat) (ho_6 : Nat) (ho_8 : Nat) (ho_9 : Nat) (ho_10 : Nat) (ho_11 : Nat) (ho_12 : Nat) (pe_1 : Nat) (pe_2 : Nat) (pe_3 : Nat) (pe_4 : Nat) (pe_5 : Nat) (pe_6 : Nat) (pe_7 : Nat) (pe_8 : Nat) (pe_9 : Nat) (pe_10 : Nat)  : CtI (S := Unit) l yX11_isImage cX11_isImage 2 (some .boolean) (rmD 1 0 0) G [.ref x] [(x, .inr (11, [.ref x_0, .int 0, .ref sp, .ref stm, .ref pl, .ref sk, .ref se, .ref ch, .int 0, .int (-1), .long 1, .ref x_11, .int 0, .ref x_13])), (pl, .inr (4, [.ref ho, .ref pl_1, .int 0, .int (-1), .int (-1), .ref pl_5])), (ho, .inr (2, [.ref fl, .ref pe, .ref ru, .int 0, .ref ho_4, .ref ho_5, .ref ho_6, .int 0, .ref ho_8, .ref ho_9, .ref ho_10, .ref ho_11, .ref ho_12, .int 50])), (pe, .inr (3, [.int 0, .ref pe_1, .ref pe_2, .ref pe_3, .ref pe_4, .ref pe_5, .ref pe_6, .ref pe_7, .ref pe_8, .ref pe_9, .ref pe_10]))] (fun r _ => r = 0) (fun _ => [(x, .inr (11, [.ref x_0, .int 0, .ref sp, .ref stm, .ref pl, .ref sk, .ref se, .ref ch, .int 0, .int (-1), .long 1, .ref x_11, .int 0, .ref x_13])), (pl, .inr (4, [.ref ho, .ref pl_1, .int 0, .int (-1), .int (-1), .ref pl_5])), (ho, .inr (2, [.ref fl, .ref pe, .ref ru, .int 0, .ref ho_4, .ref ho_5, .ref ho_6, .int 0, .ref ho_8, .ref ho_9, .ref ho_10, .ref ho_11, .ref ho_12, .int 50])), (pe, .inr (3, [.int 0, .ref pe_1, .ref pe_2, .ref pe_3, .ref pe_4, .ref pe_5, .ref pe_6, .ref pe_7, .ref pe_8, .ref pe_9, .ref pe_10]))]) := by
  refine ctI_of (own := RX11) (by decide +kernel) rfl (Nat.le_of_ble_eq_true rfl) ?_
  intro p e s m below meth c A ls F hr hlk hnm hK hP hD hA hS hl
  have hx := F.1
  have hb := F.2.1
  have hown := F.2.2.2.1
  have hl : lv_has ls 2 [(0, .ref x)] := hl
  refine lv_aload_n hx hb dX11_isImage_0 rfl (lv_at hl 0 rfl) ?_
  refine g_get F hK hP 0 rfl clX11 4 (by decide) flX11_43 rfl dX11_isImage_1 ?_
  refine g_get F hK hP 1 rfl clX4 0 (by decide) flX11_121 rfl dX11_isImage_4 ?_
  refine g_get F hK hP 2 rfl clX2 1 (by decide) flX11_139 rfl dX11_isImage_7 ?_
  refine g_get F hK hP 3 rfl clX3 0 (by decide) flX11_143 rfl dX11_isImage_10 ?_
  refine lv_istore_n (lv' := [(1, .int 0), (0, .ref x)]) hx hb dX11_isImage_13 rfl hl (by decide) rfl (fun ls hl => ?_)
  refine lv_aload_n hx hb dX11_isImage_14 rfl (lv_at hl 1 rfl) ?_
  refine g_get F hK hP 0 rfl clX11 1 (by decide) flX11_13 rfl dX11_isImage_15 ?_
  refine lv_iload_n hx hb dX11_isImage_18 rfl (lv_at hl 0 rfl) ?_
  refine lv_iconst (v := 2) hx hb dX11_isImage_19 (by decide) ?_
  refine lv_iadd hx hb dX11_isImage_20 ?_
  refine cst_i (y := 2) (by decide +kernel) ?_
  refine lv_icmp_ne (tgt := 42) hx hb dX11_isImage_21 (by decide) (fun _ => ?_) (fun h_ => absurd h_ (by decide +kernel))
  refine lv_iconst (v := 0) hx hb dX11_isImage_42 (by decide) ?_
  exact r_z F hr hlk hP hD hS () [0, 1, 2, 3] rfl rfl rfl dX11_isImage_43 (Nat.le_of_ble_eq_true rfl) (Nat.le_of_ble_eq_true rfl) (by decide)
set_option maxHeartbeats 4000000 in
set_option maxRecDepth 100000 in
theorem k_X11_on (l : Launch) (G : Gx) (x : Nat) (x_0 : Nat) (sp : Nat) (stm : Nat) (pl : Nat) (sk : Nat) (se : Nat) (ch : Nat) (x_11 : Nat) (x_13 : Nat) (ho : Nat) (pl_1 : Nat) (pl_5 : Nat) (fl : Nat) (pe : Nat) (ru : Nat) (ho_4 : Nat) (ho_5 : Nat) (ho_6 : Nat) (ho_8 : Nat) (ho_9 : Nat) (ho_10 : Nat) (ho_11 : Nat) (ho_12 : Nat) (pe_1 : Nat) (pe_2 : Nat) (pe_3 : Nat) (pe_4 : Nat) (pe_5 : Nat) (pe_6 : Nat) (pe_7 : Nat) (pe_8 : Nat) (pe_9 : Nat) (pe_10 : Nat) (fl_3 : Nat) (fl_4 : Nat) (fl_5 : Nat) (fl_6 : Nat) (fl_7 : Nat)  : CtI (S := Unit) l yX11_on cX11_on 2 (some .boolean) (rmD 2 0 0) G [.ref x] [(x, .inr (11, [.ref x_0, .int 0, .ref sp, .ref stm, .ref pl, .ref sk, .ref se, .ref ch, .int 0, .int (-1), .long 1, .ref x_11, .int 0, .ref x_13])), (pl, .inr (4, [.ref ho, .ref pl_1, .int 0, .int (-1), .int (-1), .ref pl_5])), (ho, .inr (2, [.ref fl, .ref pe, .ref ru, .int 0, .ref ho_4, .ref ho_5, .ref ho_6, .int 0, .ref ho_8, .ref ho_9, .ref ho_10, .ref ho_11, .ref ho_12, .int 50])), (pe, .inr (3, [.int 0, .ref pe_1, .ref pe_2, .ref pe_3, .ref pe_4, .ref pe_5, .ref pe_6, .ref pe_7, .ref pe_8, .ref pe_9, .ref pe_10])), (fl, .inr (1, [.int 0, .int 0, .int 0, .ref fl_3, .ref fl_4, .ref fl_5, .ref fl_6, .ref fl_7])), (x_13, .inl (G.2.1, 6, .inl (fun _ => 0)))] (fun r _ => r = 0) (fun _ => []) := by
  refine ctI_of (own := RX11) (by decide +kernel) rfl (Nat.le_of_ble_eq_true rfl) ?_
  intro p e s m below meth c A ls F hr hlk hnm hK hP hD hA hS hl
  have hx := F.1
  have hb := F.2.1
  have hown := F.2.2.2.1
  have hl : lv_has ls 2 [(0, .ref x)] := hl
  refine lv_aload_n hx hb dX11_on_0 rfl (lv_at hl 0 rfl) ?_
  refine cvi (wr := [(fl, .inr (1, [.int 0, .int 0, .int 0, .ref fl_3, .ref fl_4, .ref fl_5, .ref fl_6, .ref fl_7])), (x_13, .inl (G.2.1, 6, .inl (fun _ => 0)))]) (As := []) (rest := []) (b := x) (k1 := 0) (s1 := 0) F hK hP hD hS hA (k_X11_isImage l G x x_0 sp stm pl sk se ch x_11 x_13 ho pl_1 pl_5 fl pe ru ho_4 ho_5 ho_6 ho_8 ho_9 ho_10 ho_11 ho_12 pe_1 pe_2 pe_3 pe_4 pe_5 pe_6 pe_7 pe_8 pe_9 pe_10) kmV_X11_isImage mlX11_377 clX11 rfl 0 rfl ⟨(Nat.le_of_ble_eq_true rfl), (Nat.le_of_ble_eq_true rfl)⟩ [0, 1, 2, 3] [4, 5] rfl rfl rfl rfl (by decide) hl.1 rfl (Nat.le_of_ble_eq_true rfl) dX11_on_1 ⟨(Nat.le_of_ble_eq_true rfl), (Nat.le_of_ble_eq_true rfl)⟩ rfl rfl (fun r2 u1 H locs hwr2 (hP : va_P G.1 vwCl [(fl, .inr (1, [.int 0, .int 0, .int 0, .ref fl_3, .ref fl_4, .ref fl_5, .ref fl_6, .ref fl_7])), (x_13, .inl (G.2.1, 6, .inl (fun _ => 0))), (x, .inr (11, [.ref x_0, .int 0, .ref sp, .ref stm, .ref pl, .ref sk, .ref se, .ref ch, .int 0, .int (-1), .long 1, .ref x_11, .int 0, .ref x_13])), (pl, .inr (4, [.ref ho, .ref pl_1, .int 0, .int (-1), .int (-1), .ref pl_5])), (ho, .inr (2, [.ref fl, .ref pe, .ref ru, .int 0, .ref ho_4, .ref ho_5, .ref ho_6, .int 0, .ref ho_8, .ref ho_9, .ref ho_10, .ref ho_11, .ref ho_12, .int 50])), (pe, .inr (3, [.int 0, .ref pe_1, .ref pe_2, .ref pe_3, .ref pe_4, .ref pe_5, .ref pe_6, .ref pe_7, .ref pe_8, .ref pe_9, .ref pe_10]))] H) (hD : va_D A [(fl, .inr (1, [.int 0, .int 0, .int 0, .ref fl_3, .ref fl_4, .ref fl_5, .ref fl_6, .ref fl_7])), (x_13, .inl (G.2.1, 6, .inl (fun _ => 0))), (x, .inr (11, [.ref x_0, .int 0, .ref sp, .ref stm, .ref pl, .ref sk, .ref se, .ref ch, .int 0, .int (-1), .long 1, .ref x_11, .int 0, .ref x_13])), (pl, .inr (4, [.ref ho, .ref pl_1, .int 0, .int (-1), .int (-1), .ref pl_5])), (ho, .inr (2, [.ref fl, .ref pe, .ref ru, .int 0, .ref ho_4, .ref ho_5, .ref ho_6, .int 0, .ref ho_8, .ref ho_9, .ref ho_10, .ref ho_11, .ref ho_12, .int 50])), (pe, .inr (3, [.int 0, .ref pe_1, .ref pe_2, .ref pe_3, .ref pe_4, .ref pe_5, .ref pe_6, .ref pe_7, .ref pe_8, .ref pe_9, .ref pe_10]))]) hS => ?_)
  subst hwr2
  refine lv_istore_n (lv' := [(1, .int 0), (0, .ref x)]) hx hb dX11_on_4 rfl hl (by decide) rfl (fun ls hl => ?_)
  refine lv_iload_n hx hb dX11_on_5 rfl (lv_at hl 0 rfl) ?_
  refine lv_if_eq (tgt := 17) hx hb dX11_on_6 (by decide) (fun _ => ?_) (fun h_ => absurd (by decide +kernel) h_)
  refine lv_aload_n hx hb dX11_on_17 rfl (lv_at hl 1 rfl) ?_
  refine lv_iconst (v := 5) hx hb dX11_on_18 (by decide) ?_
  refine cvi (wr := [(fl, .inr (1, [.int 0, .int 0, .int 0, .ref fl_3, .ref fl_4, .ref fl_5, .ref fl_6, .ref fl_7])), (pl, .inr (4, [.ref ho, .ref pl_1, .int 0, .int (-1), .int (-1), .ref pl_5])), (ho, .inr (2, [.ref fl, .ref pe, .ref ru, .int 0, .ref ho_4, .ref ho_5, .ref ho_6, .int 0, .ref ho_8, .ref ho_9, .ref ho_10, .ref ho_11, .ref ho_12, .int 50])), (pe, .inr (3, [.int 0, .ref pe_1, .ref pe_2, .ref pe_3, .ref pe_4, .ref pe_5, .ref pe_6, .ref pe_7, .ref pe_8, .ref pe_9, .ref pe_10]))]) (As := [.int 5]) (rest := []) (b := x) (k1 := 0) (s1 := 0) F hK hP hD hS hA (k_X11_refuse l G x 5 x_0 sp stm pl sk se ch x_11 x_13 (vin (by decide +kernel))) kmV_X11_refuse mlX11_89 clX11 rfl 0 rfl ⟨(Nat.le_of_ble_eq_true rfl), (Nat.le_of_ble_eq_true rfl)⟩ [2, 1] [0, 3, 4, 5] rfl rfl rfl rfl (by decide) hl.1 rfl (Nat.le_of_ble_eq_true rfl) dX11_on_19 ⟨(Nat.le_of_ble_eq_true rfl), (Nat.le_of_ble_eq_true rfl)⟩ rfl rfl (fun r4 u3 H locs hwr4 (hP : va_P G.1 vwCl [(fl, .inr (1, [.int 0, .int 0, .int 0, .ref fl_3, .ref fl_4, .ref fl_5, .ref fl_6, .ref fl_7])), (pl, .inr (4, [.ref ho, .ref pl_1, .int 0, .int (-1), .int (-1), .ref pl_5])), (ho, .inr (2, [.ref fl, .ref pe, .ref ru, .int 0, .ref ho_4, .ref ho_5, .ref ho_6, .int 0, .ref ho_8, .ref ho_9, .ref ho_10, .ref ho_11, .ref ho_12, .int 50])), (pe, .inr (3, [.int 0, .ref pe_1, .ref pe_2, .ref pe_3, .ref pe_4, .ref pe_5, .ref pe_6, .ref pe_7, .ref pe_8, .ref pe_9, .ref pe_10])), (x, .inr (11, [.ref x_0, .int 0, .ref sp, .ref stm, .ref pl, .ref sk, .ref se, .ref ch, .int 0, .int (-1), .long 1, .ref x_11, .int 0, .ref x_13]))] H) (hD : va_D A [(fl, .inr (1, [.int 0, .int 0, .int 0, .ref fl_3, .ref fl_4, .ref fl_5, .ref fl_6, .ref fl_7])), (pl, .inr (4, [.ref ho, .ref pl_1, .int 0, .int (-1), .int (-1), .ref pl_5])), (ho, .inr (2, [.ref fl, .ref pe, .ref ru, .int 0, .ref ho_4, .ref ho_5, .ref ho_6, .int 0, .ref ho_8, .ref ho_9, .ref ho_10, .ref ho_11, .ref ho_12, .int 50])), (pe, .inr (3, [.int 0, .ref pe_1, .ref pe_2, .ref pe_3, .ref pe_4, .ref pe_5, .ref pe_6, .ref pe_7, .ref pe_8, .ref pe_9, .ref pe_10])), (x, .inr (11, [.ref x_0, .int 0, .ref sp, .ref stm, .ref pl, .ref sk, .ref se, .ref ch, .int 0, .int (-1), .long 1, .ref x_11, .int 0, .ref x_13]))]) hS => ?_)
  subst hwr4
  refine lv_pop hx hb dX11_on_22 rfl ?_
  refine lv_aload_n hx hb dX11_on_23 rfl (lv_at hl 1 rfl) ?_
  refine lv_iconst (v := 0) hx hb dX11_on_24 (by decide) ?_
  refine g_put (w' := [(fl, .inr (1, [.int 0, .int 0, .int 0, .ref fl_3, .ref fl_4, .ref fl_5, .ref fl_6, .ref fl_7])), (pl, .inr (4, [.ref ho, .ref pl_1, .int 0, .int (-1), .int (-1), .ref pl_5])), (ho, .inr (2, [.ref fl, .ref pe, .ref ru, .int 0, .ref ho_4, .ref ho_5, .ref ho_6, .int 0, .ref ho_8, .ref ho_9, .ref ho_10, .ref ho_11, .ref ho_12, .int 50])), (pe, .inr (3, [.int 0, .ref pe_1, .ref pe_2, .ref pe_3, .ref pe_4, .ref pe_5, .ref pe_6, .ref pe_7, .ref pe_8, .ref pe_9, .ref pe_10])), (x, .inr (11, [.ref x_0, .int 0, .ref sp, .ref stm, .ref pl, .ref sk, .ref se, .ref ch, .int 0, .int (-1), .long 1, .ref x_11, .int 0, .ref x_13]))]) F hK hP hD hS 4 rfl clX11 1 (by decide) flX11_13 rfl rfl rfl (Nat.le_of_ble_eq_true rfl) dX11_on_25 rfl (fun H locs hP hD hS => ?_)
  refine lv_iload_n hx hb dX11_on_28 rfl (lv_at hl 0 rfl) ?_
  exact r_z F hr hlk hP hD hS () [] rfl rfl rfl dX11_on_29 (Nat.le_of_ble_eq_true rfl) (Nat.le_of_ble_eq_true rfl) (by decide)
set_option maxHeartbeats 4000000 in
set_option maxRecDepth 100000 in
theorem k_X1_clear (l : Launch) (G : Gx) (fl : Nat) (fl_3 : Nat) (fl_4 : Nat) (fl_5 : Nat) (fl_6 : Nat) (fl_7 : Nat)  : CtV (S := Unit) l yX1_clear cX1_clear 1 none (rmD 1 0 0) G [.ref fl] [(fl, .inr (1, [.int 0, .int 0, .int 0, .ref fl_3, .ref fl_4, .ref fl_5, .ref fl_6, .ref fl_7]))] (fun _ => True) (fun _ => [(fl, .inr (1, [.int 0, .int 0, .int 0, .ref fl_3, .ref fl_4, .ref fl_5, .ref fl_6, .ref fl_7]))]) := by
  refine ctV_of (own := RX1) (by decide +kernel) rfl (Nat.le_of_ble_eq_true rfl) ?_
  intro p e s m below meth c A ls F hr hlk hnm hK hP hD hA hS hl
  have hx := F.1
  have hb := F.2.1
  have hown := F.2.2.2.1
  have hl : lv_has ls 1 [(0, .ref fl)] := hl
  refine lv_aload_n hx hb dX1_clear_0 rfl (lv_at hl 0 rfl) ?_
  refine lv_iconst (v := 0) hx hb dX1_clear_1 (by decide) ?_
  refine g_put (w' := [(fl, .inr (1, [.int 0, .int 0, .int 0, .ref fl_3, .ref fl_4, .ref fl_5, .ref fl_6, .ref fl_7]))]) F hK hP hD hS 0 rfl clX1 0 (by decide) flX1_9 rfl rfl rfl (Nat.le_of_ble_eq_true rfl) dX1_clear_2 rfl (fun H locs hP hD hS => ?_)
  refine lv_aload_n hx hb dX1_clear_5 rfl (lv_at hl 0 rfl) ?_
  refine lv_iconst (v := 0) hx hb dX1_clear_6 (by decide) ?_
  refine g_put (w' := [(fl, .inr (1, [.int 0, .int 0, .int 0, .ref fl_3, .ref fl_4, .ref fl_5, .ref fl_6, .ref fl_7]))]) F hK hP hD hS 0 rfl clX1 1 (by decide) flX1_15 rfl rfl rfl (Nat.le_of_ble_eq_true rfl) dX1_clear_7 rfl (fun H locs hP hD hS => ?_)
  refine lv_aload_n hx hb dX1_clear_10 rfl (lv_at hl 0 rfl) ?_
  refine lv_iconst (v := 0) hx hb dX1_clear_11 (by decide) ?_
  refine g_put (w' := [(fl, .inr (1, [.int 0, .int 0, .int 0, .ref fl_3, .ref fl_4, .ref fl_5, .ref fl_6, .ref fl_7]))]) F hK hP hD hS 0 rfl clX1 2 (by decide) flX1_18 rfl rfl rfl (Nat.le_of_ble_eq_true rfl) dX1_clear_12 rfl (fun H locs hP hD hS => ?_)
  exact r_v F hr hlk hP hD hS () [0] rfl rfl trivial dX1_clear_15 (Nat.le_of_ble_eq_true rfl) (Nat.le_of_ble_eq_true rfl)
set_option maxHeartbeats 4000000 in
set_option maxRecDepth 100000 in
theorem k_X7_clear (l : Launch) (G : Gx) (ru : Nat) (ru_2 : Nat) (ru_3 : Nat) (ru_4 : Nat) (ru_5 : Nat) (ru_6 : Nat) (ru_7 : Nat)  : CtV (S := Unit) l yX7_clear cX7_clear 1 none (rmD 1 0 0) G [.ref ru] [(ru, .inr (7, [.int 0, .int 0, .ref ru_2, .ref ru_3, .ref ru_4, .ref ru_5, .ref ru_6, .ref ru_7]))] (fun _ => True) (fun _ => [(ru, .inr (7, [.int 0, .int 0, .ref ru_2, .ref ru_3, .ref ru_4, .ref ru_5, .ref ru_6, .ref ru_7]))]) := by
  refine ctV_of (own := RX7) (by decide +kernel) rfl (Nat.le_of_ble_eq_true rfl) ?_
  intro p e s m below meth c A ls F hr hlk hnm hK hP hD hA hS hl
  have hx := F.1
  have hb := F.2.1
  have hown := F.2.2.2.1
  have hl : lv_has ls 1 [(0, .ref ru)] := hl
  refine lv_aload_n hx hb dX7_clear_0 rfl (lv_at hl 0 rfl) ?_
  refine lv_iconst (v := 0) hx hb dX7_clear_1 (by decide) ?_
  refine g_put (w' := [(ru, .inr (7, [.int 0, .int 0, .ref ru_2, .ref ru_3, .ref ru_4, .ref ru_5, .ref ru_6, .ref ru_7]))]) F hK hP hD hS 0 rfl clX7 0 (by decide) flX7_9 rfl rfl rfl (Nat.le_of_ble_eq_true rfl) dX7_clear_2 rfl (fun H locs hP hD hS => ?_)
  refine lv_aload_n hx hb dX7_clear_5 rfl (lv_at hl 0 rfl) ?_
  refine lv_iconst (v := 0) hx hb dX7_clear_6 (by decide) ?_
  refine g_put (w' := [(ru, .inr (7, [.int 0, .int 0, .ref ru_2, .ref ru_3, .ref ru_4, .ref ru_5, .ref ru_6, .ref ru_7]))]) F hK hP hD hS 0 rfl clX7 1 (by decide) flX7_15 rfl rfl rfl (Nat.le_of_ble_eq_true rfl) dX7_clear_7 rfl (fun H locs hP hD hS => ?_)
  exact r_v F hr hlk hP hD hS () [0] rfl rfl trivial dX7_clear_10 (Nat.le_of_ble_eq_true rfl) (Nat.le_of_ble_eq_true rfl)
set_option maxHeartbeats 4000000 in
set_option maxRecDepth 100000 in
theorem k_X2_clear (l : Launch) (G : Gx) (ho : Nat) (fl : Nat) (pe : Nat) (ru : Nat) (ho_4 : Nat) (ho_5 : Nat) (ho_6 : Nat) (ho_8 : Nat) (ho_9 : Nat) (ho_10 : Nat) (ho_11 : Nat) (ho_12 : Nat) (fl_3 : Nat) (fl_4 : Nat) (fl_5 : Nat) (fl_6 : Nat) (fl_7 : Nat) (pe_1 : Nat) (pe_2 : Nat) (pe_3 : Nat) (pe_4 : Nat) (pe_5 : Nat) (pe_6 : Nat) (pe_7 : Nat) (pe_8 : Nat) (pe_9 : Nat) (pe_10 : Nat) (ru_2 : Nat) (ru_3 : Nat) (ru_4 : Nat) (ru_5 : Nat) (ru_6 : Nat) (ru_7 : Nat)  : CtV (S := Unit) l yX2_clear cX2_clear 2 none (rmD 2 0 0) G [.ref ho] [(ho, .inr (2, [.ref fl, .ref pe, .ref ru, .int 0, .ref ho_4, .ref ho_5, .ref ho_6, .int 0, .ref ho_8, .ref ho_9, .ref ho_10, .ref ho_11, .ref ho_12, .int 50])), (fl, .inr (1, [.int 0, .int 0, .int 0, .ref fl_3, .ref fl_4, .ref fl_5, .ref fl_6, .ref fl_7])), (pe, .inr (3, [.int 0, .ref pe_1, .ref pe_2, .ref pe_3, .ref pe_4, .ref pe_5, .ref pe_6, .ref pe_7, .ref pe_8, .ref pe_9, .ref pe_10])), (ru, .inr (7, [.int 0, .int 0, .ref ru_2, .ref ru_3, .ref ru_4, .ref ru_5, .ref ru_6, .ref ru_7])), (ho_11, .inl (G.2.1, 5, .inl (fun _ => 0))), (ho_12, .inl (G.2.1, 5, .inl (fun _ => 0)))] (fun _ => True) (fun _ => [(ho, .inr (2, [.ref fl, .ref pe, .ref ru, .int 0, .ref ho_4, .ref ho_5, .ref ho_6, .int 0, .ref ho_8, .ref ho_9, .ref ho_10, .ref ho_11, .ref ho_12, .int 50])), (fl, .inr (1, [.int 0, .int 0, .int 0, .ref fl_3, .ref fl_4, .ref fl_5, .ref fl_6, .ref fl_7])), (pe, .inr (3, [.int 0, .ref pe_1, .ref pe_2, .ref pe_3, .ref pe_4, .ref pe_5, .ref pe_6, .ref pe_7, .ref pe_8, .ref pe_9, .ref pe_10])), (ru, .inr (7, [.int 0, .int 0, .ref ru_2, .ref ru_3, .ref ru_4, .ref ru_5, .ref ru_6, .ref ru_7]))]) := by
  refine ctV_of (own := RX2) (by decide +kernel) rfl (Nat.le_of_ble_eq_true rfl) ?_
  intro p e s m below meth c A ls F hr hlk hnm hK hP hD hA hS hl
  have hx := F.1
  have hb := F.2.1
  have hown := F.2.2.2.1
  have hl : lv_has ls 2 [(0, .ref ho)] := hl
  refine lv_aload_n hx hb dX2_clear_0 rfl (lv_at hl 0 rfl) ?_
  refine g_get F hK hP 0 rfl clX2 0 (by decide) flX2_12 rfl dX2_clear_1 ?_
  refine cvv (wr := [(ho, .inr (2, [.ref fl, .ref pe, .ref ru, .int 0, .ref ho_4, .ref ho_5, .ref ho_6, .int 0, .ref ho_8, .ref ho_9, .ref ho_10, .ref ho_11, .ref ho_12, .int 50])), (pe, .inr (3, [.int 0, .ref pe_1, .ref pe_2, .ref pe_3, .ref pe_4, .ref pe_5, .ref pe_6, .ref pe_7, .ref pe_8, .ref pe_9, .ref pe_10])), (ru, .inr (7, [.int 0, .int 0, .ref ru_2, .ref ru_3, .ref ru_4, .ref ru_5, .ref ru_6, .ref ru_7])), (ho_11, .inl (G.2.1, 5, .inl (fun _ => 0))), (ho_12, .inl (G.2.1, 5, .inl (fun _ => 0)))]) (As := []) (rest := []) (b := fl) (k1 := 0) (s1 := 0) F hK hP hD hS hA (k_X1_clear l G fl fl_3 fl_4 fl_5 fl_6 fl_7) kmV_X1_clear mlX2_68 clX1 rfl 0 rfl ⟨(Nat.le_of_ble_eq_true rfl), (Nat.le_of_ble_eq_true rfl)⟩ [1] [0, 2, 3, 4, 5] rfl rfl rfl rfl (by decide) hl.1 rfl (Nat.le_of_ble_eq_true rfl) dX2_clear_4 ⟨(Nat.le_of_ble_eq_true rfl), (Nat.le_of_ble_eq_true rfl)⟩ rfl rfl (fun u1 H locs hwr2 (hP : va_P G.1 vwCl [(ho, .inr (2, [.ref fl, .ref pe, .ref ru, .int 0, .ref ho_4, .ref ho_5, .ref ho_6, .int 0, .ref ho_8, .ref ho_9, .ref ho_10, .ref ho_11, .ref ho_12, .int 50])), (pe, .inr (3, [.int 0, .ref pe_1, .ref pe_2, .ref pe_3, .ref pe_4, .ref pe_5, .ref pe_6, .ref pe_7, .ref pe_8, .ref pe_9, .ref pe_10])), (ru, .inr (7, [.int 0, .int 0, .ref ru_2, .ref ru_3, .ref ru_4, .ref ru_5, .ref ru_6, .ref ru_7])), (ho_11, .inl (G.2.1, 5, .inl (fun _ => 0))), (ho_12, .inl (G.2.1, 5, .inl (fun _ => 0))), (fl, .inr (1, [.int 0, .int 0, .int 0, .ref fl_3, .ref fl_4, .ref fl_5, .ref fl_6, .ref fl_7]))] H) (hD : va_D A [(ho, .inr (2, [.ref fl, .ref pe, .ref ru, .int 0, .ref ho_4, .ref ho_5, .ref ho_6, .int 0, .ref ho_8, .ref ho_9, .ref ho_10, .ref ho_11, .ref ho_12, .int 50])), (pe, .inr (3, [.int 0, .ref pe_1, .ref pe_2, .ref pe_3, .ref pe_4, .ref pe_5, .ref pe_6, .ref pe_7, .ref pe_8, .ref pe_9, .ref pe_10])), (ru, .inr (7, [.int 0, .int 0, .ref ru_2, .ref ru_3, .ref ru_4, .ref ru_5, .ref ru_6, .ref ru_7])), (ho_11, .inl (G.2.1, 5, .inl (fun _ => 0))), (ho_12, .inl (G.2.1, 5, .inl (fun _ => 0))), (fl, .inr (1, [.int 0, .int 0, .int 0, .ref fl_3, .ref fl_4, .ref fl_5, .ref fl_6, .ref fl_7]))]) hS => ?_)
  refine lv_aload_n hx hb dX2_clear_7 rfl (lv_at hl 0 rfl) ?_
  refine g_get F hK hP 0 rfl clX2 1 (by decide) flX2_21 rfl dX2_clear_8 ?_
  refine lv_iconst (v := 0) hx hb dX2_clear_11 (by decide) ?_
  refine g_put (w' := [(ho, .inr (2, [.ref fl, .ref pe, .ref ru, .int 0, .ref ho_4, .ref ho_5, .ref ho_6, .int 0, .ref ho_8, .ref ho_9, .ref ho_10, .ref ho_11, .ref ho_12, .int 50])), (pe, .inr (3, [.int 0, .ref pe_1, .ref pe_2, .ref pe_3, .ref pe_4, .ref pe_5, .ref pe_6, .ref pe_7, .ref pe_8, .ref pe_9, .ref pe_10])), (ru, .inr (7, [.int 0, .int 0, .ref ru_2, .ref ru_3, .ref ru_4, .ref ru_5, .ref ru_6, .ref ru_7])), (ho_11, .inl (G.2.1, 5, .inl (fun _ => 0))), (ho_12, .inl (G.2.1, 5, .inl (fun _ => 0))), (fl, .inr (1, [.int 0, .int 0, .int 0, .ref fl_3, .ref fl_4, .ref fl_5, .ref fl_6, .ref fl_7]))]) F hK hP hD hS 1 rfl clX3 0 (by decide) flX2_71 rfl rfl rfl (Nat.le_of_ble_eq_true rfl) dX2_clear_12 rfl (fun H locs hP hD hS => ?_)
  refine lv_aload_n hx hb dX2_clear_15 rfl (lv_at hl 0 rfl) ?_
  refine g_get F hK hP 0 rfl clX2 2 (by decide) flX2_28 rfl dX2_clear_16 ?_
  refine cvv (wr := [(ho, .inr (2, [.ref fl, .ref pe, .ref ru, .int 0, .ref ho_4, .ref ho_5, .ref ho_6, .int 0, .ref ho_8, .ref ho_9, .ref ho_10, .ref ho_11, .ref ho_12, .int 50])), (pe, .inr (3, [.int 0, .ref pe_1, .ref pe_2, .ref pe_3, .ref pe_4, .ref pe_5, .ref pe_6, .ref pe_7, .ref pe_8, .ref pe_9, .ref pe_10])), (ho_11, .inl (G.2.1, 5, .inl (fun _ => 0))), (ho_12, .inl (G.2.1, 5, .inl (fun _ => 0))), (fl, .inr (1, [.int 0, .int 0, .int 0, .ref fl_3, .ref fl_4, .ref fl_5, .ref fl_6, .ref fl_7]))]) (As := []) (rest := []) (b := ru) (k1 := 0) (s1 := 0) F hK hP hD hS hA (k_X7_clear l G ru ru_2 ru_3 ru_4 ru_5 ru_6 ru_7) kmV_X7_clear mlX2_74 clX7 rfl 0 rfl ⟨(Nat.le_of_ble_eq_true rfl), (Nat.le_of_ble_eq_true rfl)⟩ [2] [0, 1, 3, 4, 5] rfl rfl rfl rfl (by decide) hl.1 rfl (Nat.le_of_ble_eq_true rfl) dX2_clear_19 ⟨(Nat.le_of_ble_eq_true rfl), (Nat.le_of_ble_eq_true rfl)⟩ rfl rfl (fun u3 H locs hwr4 (hP : va_P G.1 vwCl [(ho, .inr (2, [.ref fl, .ref pe, .ref ru, .int 0, .ref ho_4, .ref ho_5, .ref ho_6, .int 0, .ref ho_8, .ref ho_9, .ref ho_10, .ref ho_11, .ref ho_12, .int 50])), (pe, .inr (3, [.int 0, .ref pe_1, .ref pe_2, .ref pe_3, .ref pe_4, .ref pe_5, .ref pe_6, .ref pe_7, .ref pe_8, .ref pe_9, .ref pe_10])), (ho_11, .inl (G.2.1, 5, .inl (fun _ => 0))), (ho_12, .inl (G.2.1, 5, .inl (fun _ => 0))), (fl, .inr (1, [.int 0, .int 0, .int 0, .ref fl_3, .ref fl_4, .ref fl_5, .ref fl_6, .ref fl_7])), (ru, .inr (7, [.int 0, .int 0, .ref ru_2, .ref ru_3, .ref ru_4, .ref ru_5, .ref ru_6, .ref ru_7]))] H) (hD : va_D A [(ho, .inr (2, [.ref fl, .ref pe, .ref ru, .int 0, .ref ho_4, .ref ho_5, .ref ho_6, .int 0, .ref ho_8, .ref ho_9, .ref ho_10, .ref ho_11, .ref ho_12, .int 50])), (pe, .inr (3, [.int 0, .ref pe_1, .ref pe_2, .ref pe_3, .ref pe_4, .ref pe_5, .ref pe_6, .ref pe_7, .ref pe_8, .ref pe_9, .ref pe_10])), (ho_11, .inl (G.2.1, 5, .inl (fun _ => 0))), (ho_12, .inl (G.2.1, 5, .inl (fun _ => 0))), (fl, .inr (1, [.int 0, .int 0, .int 0, .ref fl_3, .ref fl_4, .ref fl_5, .ref fl_6, .ref fl_7])), (ru, .inr (7, [.int 0, .int 0, .ref ru_2, .ref ru_3, .ref ru_4, .ref ru_5, .ref ru_6, .ref ru_7]))]) hS => ?_)
  refine lv_aload_n hx hb dX2_clear_22 rfl (lv_at hl 0 rfl) ?_
  refine lv_iconst (v := 0) hx hb dX2_clear_23 (by decide) ?_
  refine g_put (w' := [(ho, .inr (2, [.ref fl, .ref pe, .ref ru, .int 0, .ref ho_4, .ref ho_5, .ref ho_6, .int 0, .ref ho_8, .ref ho_9, .ref ho_10, .ref ho_11, .ref ho_12, .int 50])), (pe, .inr (3, [.int 0, .ref pe_1, .ref pe_2, .ref pe_3, .ref pe_4, .ref pe_5, .ref pe_6, .ref pe_7, .ref pe_8, .ref pe_9, .ref pe_10])), (ho_11, .inl (G.2.1, 5, .inl (fun _ => 0))), (ho_12, .inl (G.2.1, 5, .inl (fun _ => 0))), (fl, .inr (1, [.int 0, .int 0, .int 0, .ref fl_3, .ref fl_4, .ref fl_5, .ref fl_6, .ref fl_7])), (ru, .inr (7, [.int 0, .int 0, .ref ru_2, .ref ru_3, .ref ru_4, .ref ru_5, .ref ru_6, .ref ru_7]))]) F hK hP hD hS 0 rfl clX2 3 (by decide) flX2_32 rfl rfl rfl (Nat.le_of_ble_eq_true rfl) dX2_clear_24 rfl (fun H locs hP hD hS => ?_)
  refine lv_aload_n hx hb dX2_clear_27 rfl (lv_at hl 0 rfl) ?_
  refine lv_iconst (v := 0) hx hb dX2_clear_28 (by decide) ?_
  refine g_put (w' := [(ho, .inr (2, [.ref fl, .ref pe, .ref ru, .int 0, .ref ho_4, .ref ho_5, .ref ho_6, .int 0, .ref ho_8, .ref ho_9, .ref ho_10, .ref ho_11, .ref ho_12, .int 50])), (pe, .inr (3, [.int 0, .ref pe_1, .ref pe_2, .ref pe_3, .ref pe_4, .ref pe_5, .ref pe_6, .ref pe_7, .ref pe_8, .ref pe_9, .ref pe_10])), (ho_11, .inl (G.2.1, 5, .inl (fun _ => 0))), (ho_12, .inl (G.2.1, 5, .inl (fun _ => 0))), (fl, .inr (1, [.int 0, .int 0, .int 0, .ref fl_3, .ref fl_4, .ref fl_5, .ref fl_6, .ref fl_7])), (ru, .inr (7, [.int 0, .int 0, .ref ru_2, .ref ru_3, .ref ru_4, .ref ru_5, .ref ru_6, .ref ru_7]))]) F hK hP hD hS 0 rfl clX2 7 (by decide) flX2_47 rfl rfl rfl (Nat.le_of_ble_eq_true rfl) dX2_clear_29 rfl (fun H locs hP hD hS => ?_)
  refine lv_aload_n hx hb dX2_clear_32 rfl (lv_at hl 0 rfl) ?_
  refine lv_bipush (v := 50) hx hb dX2_clear_33 (by decide) ?_
  refine g_put (w' := [(ho, .inr (2, [.ref fl, .ref pe, .ref ru, .int 0, .ref ho_4, .ref ho_5, .ref ho_6, .int 0, .ref ho_8, .ref ho_9, .ref ho_10, .ref ho_11, .ref ho_12, .int 50])), (pe, .inr (3, [.int 0, .ref pe_1, .ref pe_2, .ref pe_3, .ref pe_4, .ref pe_5, .ref pe_6, .ref pe_7, .ref pe_8, .ref pe_9, .ref pe_10])), (ho_11, .inl (G.2.1, 5, .inl (fun _ => 0))), (ho_12, .inl (G.2.1, 5, .inl (fun _ => 0))), (fl, .inr (1, [.int 0, .int 0, .int 0, .ref fl_3, .ref fl_4, .ref fl_5, .ref fl_6, .ref fl_7])), (ru, .inr (7, [.int 0, .int 0, .ref ru_2, .ref ru_3, .ref ru_4, .ref ru_5, .ref ru_6, .ref ru_7]))]) F hK hP hD hS 0 rfl clX2 13 (by decide) flX2_65 rfl rfl rfl (Nat.le_of_ble_eq_true rfl) dX2_clear_35 rfl (fun H locs hP hD hS => ?_)
  refine lv_iconst (v := 0) hx hb dX2_clear_38 (by decide) ?_
  refine lv_istore_n (lv' := [(1, .int 0), (0, .ref ho)]) hx hb dX2_clear_39 rfl hl (by decide) rfl (fun ls hl => ?_)
  refine lv_iload_n hx hb dX2_clear_40 rfl (lv_at hl 0 rfl) ?_
  refine lv_iconst (v := 5) hx hb dX2_clear_41 (by decide) ?_
  refine lv_icmp_ge (tgt := 65) hx hb dX2_clear_42 (by decide) (fun h_ => absurd h_ (by decide +kernel)) (fun _ => ?_)
  refine lv_aload_n hx hb dX2_clear_45 rfl (lv_at hl 1 rfl) ?_
  refine g_get F hK hP 0 rfl clX2 11 (by decide) flX2_59 rfl dX2_clear_46 ?_
  refine lv_iload_n hx hb dX2_clear_49 rfl (lv_at hl 0 rfl) ?_
  refine lv_iconst (v := 0) hx hb dX2_clear_50 (by decide) ?_
  refine g_iast F hK hP hD hS 2 rfl (vin (by decide +kernel)) dX2_clear_51 (fun f_ => [(ho, .inr (2, [.ref fl, .ref pe, .ref ru, .int 0, .ref ho_4, .ref ho_5, .ref ho_6, .int 0, .ref ho_8, .ref ho_9, .ref ho_10, .ref ho_11, .ref ho_12, .int 50])), (pe, .inr (3, [.int 0, .ref pe_1, .ref pe_2, .ref pe_3, .ref pe_4, .ref pe_5, .ref pe_6, .ref pe_7, .ref pe_8, .ref pe_9, .ref pe_10])), (ho_11, .inl (G.2.1, 5, .inl f_)), (ho_12, .inl (G.2.1, 5, .inl (fun _ => 0))), (fl, .inr (1, [.int 0, .int 0, .int 0, .ref fl_3, .ref fl_4, .ref fl_5, .ref fl_6, .ref fl_7])), (ru, .inr (7, [.int 0, .int 0, .ref ru_2, .ref ru_3, .ref ru_4, .ref ru_5, .ref ru_6, .ref ru_7]))]) (fun _ => rfl) (fun f5 H locs ef5 (hP : va_P G.1 vwCl [(ho, .inr (2, [.ref fl, .ref pe, .ref ru, .int 0, .ref ho_4, .ref ho_5, .ref ho_6, .int 0, .ref ho_8, .ref ho_9, .ref ho_10, .ref ho_11, .ref ho_12, .int 50])), (pe, .inr (3, [.int 0, .ref pe_1, .ref pe_2, .ref pe_3, .ref pe_4, .ref pe_5, .ref pe_6, .ref pe_7, .ref pe_8, .ref pe_9, .ref pe_10])), (ho_11, .inl (G.2.1, 5, .inl f5)), (ho_12, .inl (G.2.1, 5, .inl (fun _ => 0))), (fl, .inr (1, [.int 0, .int 0, .int 0, .ref fl_3, .ref fl_4, .ref fl_5, .ref fl_6, .ref fl_7])), (ru, .inr (7, [.int 0, .int 0, .ref ru_2, .ref ru_3, .ref ru_4, .ref ru_5, .ref ru_6, .ref ru_7]))] H) (hD : va_D A [(ho, .inr (2, [.ref fl, .ref pe, .ref ru, .int 0, .ref ho_4, .ref ho_5, .ref ho_6, .int 0, .ref ho_8, .ref ho_9, .ref ho_10, .ref ho_11, .ref ho_12, .int 50])), (pe, .inr (3, [.int 0, .ref pe_1, .ref pe_2, .ref pe_3, .ref pe_4, .ref pe_5, .ref pe_6, .ref pe_7, .ref pe_8, .ref pe_9, .ref pe_10])), (ho_11, .inl (G.2.1, 5, .inl f5)), (ho_12, .inl (G.2.1, 5, .inl (fun _ => 0))), (fl, .inr (1, [.int 0, .int 0, .int 0, .ref fl_3, .ref fl_4, .ref fl_5, .ref fl_6, .ref fl_7])), (ru, .inr (7, [.int 0, .int 0, .ref ru_2, .ref ru_3, .ref ru_4, .ref ru_5, .ref ru_6, .ref ru_7]))]) hS => ?_)
  refine lv_aload_n hx hb dX2_clear_52 rfl (lv_at hl 1 rfl) ?_
  refine g_get F hK hP 0 rfl clX2 12 (by decide) flX2_62 rfl dX2_clear_53 ?_
  refine lv_iload_n hx hb dX2_clear_56 rfl (lv_at hl 0 rfl) ?_
  refine lv_iconst (v := 0) hx hb dX2_clear_57 (by decide) ?_
  refine g_iast F hK hP hD hS 3 rfl (vin (by decide +kernel)) dX2_clear_58 (fun f_ => [(ho, .inr (2, [.ref fl, .ref pe, .ref ru, .int 0, .ref ho_4, .ref ho_5, .ref ho_6, .int 0, .ref ho_8, .ref ho_9, .ref ho_10, .ref ho_11, .ref ho_12, .int 50])), (pe, .inr (3, [.int 0, .ref pe_1, .ref pe_2, .ref pe_3, .ref pe_4, .ref pe_5, .ref pe_6, .ref pe_7, .ref pe_8, .ref pe_9, .ref pe_10])), (ho_11, .inl (G.2.1, 5, .inl f5)), (ho_12, .inl (G.2.1, 5, .inl f_)), (fl, .inr (1, [.int 0, .int 0, .int 0, .ref fl_3, .ref fl_4, .ref fl_5, .ref fl_6, .ref fl_7])), (ru, .inr (7, [.int 0, .int 0, .ref ru_2, .ref ru_3, .ref ru_4, .ref ru_5, .ref ru_6, .ref ru_7]))]) (fun _ => rfl) (fun f6 H locs ef6 (hP : va_P G.1 vwCl [(ho, .inr (2, [.ref fl, .ref pe, .ref ru, .int 0, .ref ho_4, .ref ho_5, .ref ho_6, .int 0, .ref ho_8, .ref ho_9, .ref ho_10, .ref ho_11, .ref ho_12, .int 50])), (pe, .inr (3, [.int 0, .ref pe_1, .ref pe_2, .ref pe_3, .ref pe_4, .ref pe_5, .ref pe_6, .ref pe_7, .ref pe_8, .ref pe_9, .ref pe_10])), (ho_11, .inl (G.2.1, 5, .inl f5)), (ho_12, .inl (G.2.1, 5, .inl f6)), (fl, .inr (1, [.int 0, .int 0, .int 0, .ref fl_3, .ref fl_4, .ref fl_5, .ref fl_6, .ref fl_7])), (ru, .inr (7, [.int 0, .int 0, .ref ru_2, .ref ru_3, .ref ru_4, .ref ru_5, .ref ru_6, .ref ru_7]))] H) (hD : va_D A [(ho, .inr (2, [.ref fl, .ref pe, .ref ru, .int 0, .ref ho_4, .ref ho_5, .ref ho_6, .int 0, .ref ho_8, .ref ho_9, .ref ho_10, .ref ho_11, .ref ho_12, .int 50])), (pe, .inr (3, [.int 0, .ref pe_1, .ref pe_2, .ref pe_3, .ref pe_4, .ref pe_5, .ref pe_6, .ref pe_7, .ref pe_8, .ref pe_9, .ref pe_10])), (ho_11, .inl (G.2.1, 5, .inl f5)), (ho_12, .inl (G.2.1, 5, .inl f6)), (fl, .inr (1, [.int 0, .int 0, .int 0, .ref fl_3, .ref fl_4, .ref fl_5, .ref fl_6, .ref fl_7])), (ru, .inr (7, [.int 0, .int 0, .ref ru_2, .ref ru_3, .ref ru_4, .ref ru_5, .ref ru_6, .ref ru_7]))]) hS => ?_)
  refine lv_iinc (v := 1) (lv' := [(1, .int 1), (0, .ref ho)]) hx hb dX2_clear_59 hl (k := 0) rfl (by decide +kernel) (by decide) rfl (fun ls hl => ?_)
  refine lv_goto (tgt := 40) hx hb dX2_clear_62 (by decide) ?_
  refine lv_iload_n hx hb dX2_clear_40 rfl (lv_at hl 0 rfl) ?_
  refine lv_iconst (v := 5) hx hb dX2_clear_41 (by decide) ?_
  refine lv_icmp_ge (tgt := 65) hx hb dX2_clear_42 (by decide) (fun h_ => absurd h_ (by decide +kernel)) (fun _ => ?_)
  refine lv_aload_n hx hb dX2_clear_45 rfl (lv_at hl 1 rfl) ?_
  refine g_get F hK hP 0 rfl clX2 11 (by decide) flX2_59 rfl dX2_clear_46 ?_
  refine lv_iload_n hx hb dX2_clear_49 rfl (lv_at hl 0 rfl) ?_
  refine lv_iconst (v := 0) hx hb dX2_clear_50 (by decide) ?_
  refine g_iast F hK hP hD hS 2 rfl (vin (by decide +kernel)) dX2_clear_51 (fun f_ => [(ho, .inr (2, [.ref fl, .ref pe, .ref ru, .int 0, .ref ho_4, .ref ho_5, .ref ho_6, .int 0, .ref ho_8, .ref ho_9, .ref ho_10, .ref ho_11, .ref ho_12, .int 50])), (pe, .inr (3, [.int 0, .ref pe_1, .ref pe_2, .ref pe_3, .ref pe_4, .ref pe_5, .ref pe_6, .ref pe_7, .ref pe_8, .ref pe_9, .ref pe_10])), (ho_11, .inl (G.2.1, 5, .inl f_)), (ho_12, .inl (G.2.1, 5, .inl f6)), (fl, .inr (1, [.int 0, .int 0, .int 0, .ref fl_3, .ref fl_4, .ref fl_5, .ref fl_6, .ref fl_7])), (ru, .inr (7, [.int 0, .int 0, .ref ru_2, .ref ru_3, .ref ru_4, .ref ru_5, .ref ru_6, .ref ru_7]))]) (fun _ => rfl) (fun f7 H locs ef7 (hP : va_P G.1 vwCl [(ho, .inr (2, [.ref fl, .ref pe, .ref ru, .int 0, .ref ho_4, .ref ho_5, .ref ho_6, .int 0, .ref ho_8, .ref ho_9, .ref ho_10, .ref ho_11, .ref ho_12, .int 50])), (pe, .inr (3, [.int 0, .ref pe_1, .ref pe_2, .ref pe_3, .ref pe_4, .ref pe_5, .ref pe_6, .ref pe_7, .ref pe_8, .ref pe_9, .ref pe_10])), (ho_11, .inl (G.2.1, 5, .inl f7)), (ho_12, .inl (G.2.1, 5, .inl f6)), (fl, .inr (1, [.int 0, .int 0, .int 0, .ref fl_3, .ref fl_4, .ref fl_5, .ref fl_6, .ref fl_7])), (ru, .inr (7, [.int 0, .int 0, .ref ru_2, .ref ru_3, .ref ru_4, .ref ru_5, .ref ru_6, .ref ru_7]))] H) (hD : va_D A [(ho, .inr (2, [.ref fl, .ref pe, .ref ru, .int 0, .ref ho_4, .ref ho_5, .ref ho_6, .int 0, .ref ho_8, .ref ho_9, .ref ho_10, .ref ho_11, .ref ho_12, .int 50])), (pe, .inr (3, [.int 0, .ref pe_1, .ref pe_2, .ref pe_3, .ref pe_4, .ref pe_5, .ref pe_6, .ref pe_7, .ref pe_8, .ref pe_9, .ref pe_10])), (ho_11, .inl (G.2.1, 5, .inl f7)), (ho_12, .inl (G.2.1, 5, .inl f6)), (fl, .inr (1, [.int 0, .int 0, .int 0, .ref fl_3, .ref fl_4, .ref fl_5, .ref fl_6, .ref fl_7])), (ru, .inr (7, [.int 0, .int 0, .ref ru_2, .ref ru_3, .ref ru_4, .ref ru_5, .ref ru_6, .ref ru_7]))]) hS => ?_)
  refine lv_aload_n hx hb dX2_clear_52 rfl (lv_at hl 1 rfl) ?_
  refine g_get F hK hP 0 rfl clX2 12 (by decide) flX2_62 rfl dX2_clear_53 ?_
  refine lv_iload_n hx hb dX2_clear_56 rfl (lv_at hl 0 rfl) ?_
  refine lv_iconst (v := 0) hx hb dX2_clear_57 (by decide) ?_
  refine g_iast F hK hP hD hS 3 rfl (vin (by decide +kernel)) dX2_clear_58 (fun f_ => [(ho, .inr (2, [.ref fl, .ref pe, .ref ru, .int 0, .ref ho_4, .ref ho_5, .ref ho_6, .int 0, .ref ho_8, .ref ho_9, .ref ho_10, .ref ho_11, .ref ho_12, .int 50])), (pe, .inr (3, [.int 0, .ref pe_1, .ref pe_2, .ref pe_3, .ref pe_4, .ref pe_5, .ref pe_6, .ref pe_7, .ref pe_8, .ref pe_9, .ref pe_10])), (ho_11, .inl (G.2.1, 5, .inl f7)), (ho_12, .inl (G.2.1, 5, .inl f_)), (fl, .inr (1, [.int 0, .int 0, .int 0, .ref fl_3, .ref fl_4, .ref fl_5, .ref fl_6, .ref fl_7])), (ru, .inr (7, [.int 0, .int 0, .ref ru_2, .ref ru_3, .ref ru_4, .ref ru_5, .ref ru_6, .ref ru_7]))]) (fun _ => rfl) (fun f8 H locs ef8 (hP : va_P G.1 vwCl [(ho, .inr (2, [.ref fl, .ref pe, .ref ru, .int 0, .ref ho_4, .ref ho_5, .ref ho_6, .int 0, .ref ho_8, .ref ho_9, .ref ho_10, .ref ho_11, .ref ho_12, .int 50])), (pe, .inr (3, [.int 0, .ref pe_1, .ref pe_2, .ref pe_3, .ref pe_4, .ref pe_5, .ref pe_6, .ref pe_7, .ref pe_8, .ref pe_9, .ref pe_10])), (ho_11, .inl (G.2.1, 5, .inl f7)), (ho_12, .inl (G.2.1, 5, .inl f8)), (fl, .inr (1, [.int 0, .int 0, .int 0, .ref fl_3, .ref fl_4, .ref fl_5, .ref fl_6, .ref fl_7])), (ru, .inr (7, [.int 0, .int 0, .ref ru_2, .ref ru_3, .ref ru_4, .ref ru_5, .ref ru_6, .ref ru_7]))] H) (hD : va_D A [(ho, .inr (2, [.ref fl, .ref pe, .ref ru, .int 0, .ref ho_4, .ref ho_5, .ref ho_6, .int 0, .ref ho_8, .ref ho_9, .ref ho_10, .ref ho_11, .ref ho_12, .int 50])), (pe, .inr (3, [.int 0, .ref pe_1, .ref pe_2, .ref pe_3, .ref pe_4, .ref pe_5, .ref pe_6, .ref pe_7, .ref pe_8, .ref pe_9, .ref pe_10])), (ho_11, .inl (G.2.1, 5, .inl f7)), (ho_12, .inl (G.2.1, 5, .inl f8)), (fl, .inr (1, [.int 0, .int 0, .int 0, .ref fl_3, .ref fl_4, .ref fl_5, .ref fl_6, .ref fl_7])), (ru, .inr (7, [.int 0, .int 0, .ref ru_2, .ref ru_3, .ref ru_4, .ref ru_5, .ref ru_6, .ref ru_7]))]) hS => ?_)
  refine lv_iinc (v := 2) (lv' := [(1, .int 2), (0, .ref ho)]) hx hb dX2_clear_59 hl (k := 0) rfl (by decide +kernel) (by decide) rfl (fun ls hl => ?_)
  refine lv_goto (tgt := 40) hx hb dX2_clear_62 (by decide) ?_
  refine lv_iload_n hx hb dX2_clear_40 rfl (lv_at hl 0 rfl) ?_
  refine lv_iconst (v := 5) hx hb dX2_clear_41 (by decide) ?_
  refine lv_icmp_ge (tgt := 65) hx hb dX2_clear_42 (by decide) (fun h_ => absurd h_ (by decide +kernel)) (fun _ => ?_)
  refine lv_aload_n hx hb dX2_clear_45 rfl (lv_at hl 1 rfl) ?_
  refine g_get F hK hP 0 rfl clX2 11 (by decide) flX2_59 rfl dX2_clear_46 ?_
  refine lv_iload_n hx hb dX2_clear_49 rfl (lv_at hl 0 rfl) ?_
  refine lv_iconst (v := 0) hx hb dX2_clear_50 (by decide) ?_
  refine g_iast F hK hP hD hS 2 rfl (vin (by decide +kernel)) dX2_clear_51 (fun f_ => [(ho, .inr (2, [.ref fl, .ref pe, .ref ru, .int 0, .ref ho_4, .ref ho_5, .ref ho_6, .int 0, .ref ho_8, .ref ho_9, .ref ho_10, .ref ho_11, .ref ho_12, .int 50])), (pe, .inr (3, [.int 0, .ref pe_1, .ref pe_2, .ref pe_3, .ref pe_4, .ref pe_5, .ref pe_6, .ref pe_7, .ref pe_8, .ref pe_9, .ref pe_10])), (ho_11, .inl (G.2.1, 5, .inl f_)), (ho_12, .inl (G.2.1, 5, .inl f8)), (fl, .inr (1, [.int 0, .int 0, .int 0, .ref fl_3, .ref fl_4, .ref fl_5, .ref fl_6, .ref fl_7])), (ru, .inr (7, [.int 0, .int 0, .ref ru_2, .ref ru_3, .ref ru_4, .ref ru_5, .ref ru_6, .ref ru_7]))]) (fun _ => rfl) (fun f9 H locs ef9 (hP : va_P G.1 vwCl [(ho, .inr (2, [.ref fl, .ref pe, .ref ru, .int 0, .ref ho_4, .ref ho_5, .ref ho_6, .int 0, .ref ho_8, .ref ho_9, .ref ho_10, .ref ho_11, .ref ho_12, .int 50])), (pe, .inr (3, [.int 0, .ref pe_1, .ref pe_2, .ref pe_3, .ref pe_4, .ref pe_5, .ref pe_6, .ref pe_7, .ref pe_8, .ref pe_9, .ref pe_10])), (ho_11, .inl (G.2.1, 5, .inl f9)), (ho_12, .inl (G.2.1, 5, .inl f8)), (fl, .inr (1, [.int 0, .int 0, .int 0, .ref fl_3, .ref fl_4, .ref fl_5, .ref fl_6, .ref fl_7])), (ru, .inr (7, [.int 0, .int 0, .ref ru_2, .ref ru_3, .ref ru_4, .ref ru_5, .ref ru_6, .ref ru_7]))] H) (hD : va_D A [(ho, .inr (2, [.ref fl, .ref pe, .ref ru, .int 0, .ref ho_4, .ref ho_5, .ref ho_6, .int 0, .ref ho_8, .ref ho_9, .ref ho_10, .ref ho_11, .ref ho_12, .int 50])), (pe, .inr (3, [.int 0, .ref pe_1, .ref pe_2, .ref pe_3, .ref pe_4, .ref pe_5, .ref pe_6, .ref pe_7, .ref pe_8, .ref pe_9, .ref pe_10])), (ho_11, .inl (G.2.1, 5, .inl f9)), (ho_12, .inl (G.2.1, 5, .inl f8)), (fl, .inr (1, [.int 0, .int 0, .int 0, .ref fl_3, .ref fl_4, .ref fl_5, .ref fl_6, .ref fl_7])), (ru, .inr (7, [.int 0, .int 0, .ref ru_2, .ref ru_3, .ref ru_4, .ref ru_5, .ref ru_6, .ref ru_7]))]) hS => ?_)
  refine lv_aload_n hx hb dX2_clear_52 rfl (lv_at hl 1 rfl) ?_
  refine g_get F hK hP 0 rfl clX2 12 (by decide) flX2_62 rfl dX2_clear_53 ?_
  refine lv_iload_n hx hb dX2_clear_56 rfl (lv_at hl 0 rfl) ?_
  refine lv_iconst (v := 0) hx hb dX2_clear_57 (by decide) ?_
  refine g_iast F hK hP hD hS 3 rfl (vin (by decide +kernel)) dX2_clear_58 (fun f_ => [(ho, .inr (2, [.ref fl, .ref pe, .ref ru, .int 0, .ref ho_4, .ref ho_5, .ref ho_6, .int 0, .ref ho_8, .ref ho_9, .ref ho_10, .ref ho_11, .ref ho_12, .int 50])), (pe, .inr (3, [.int 0, .ref pe_1, .ref pe_2, .ref pe_3, .ref pe_4, .ref pe_5, .ref pe_6, .ref pe_7, .ref pe_8, .ref pe_9, .ref pe_10])), (ho_11, .inl (G.2.1, 5, .inl f9)), (ho_12, .inl (G.2.1, 5, .inl f_)), (fl, .inr (1, [.int 0, .int 0, .int 0, .ref fl_3, .ref fl_4, .ref fl_5, .ref fl_6, .ref fl_7])), (ru, .inr (7, [.int 0, .int 0, .ref ru_2, .ref ru_3, .ref ru_4, .ref ru_5, .ref ru_6, .ref ru_7]))]) (fun _ => rfl) (fun f10 H locs ef10 (hP : va_P G.1 vwCl [(ho, .inr (2, [.ref fl, .ref pe, .ref ru, .int 0, .ref ho_4, .ref ho_5, .ref ho_6, .int 0, .ref ho_8, .ref ho_9, .ref ho_10, .ref ho_11, .ref ho_12, .int 50])), (pe, .inr (3, [.int 0, .ref pe_1, .ref pe_2, .ref pe_3, .ref pe_4, .ref pe_5, .ref pe_6, .ref pe_7, .ref pe_8, .ref pe_9, .ref pe_10])), (ho_11, .inl (G.2.1, 5, .inl f9)), (ho_12, .inl (G.2.1, 5, .inl f10)), (fl, .inr (1, [.int 0, .int 0, .int 0, .ref fl_3, .ref fl_4, .ref fl_5, .ref fl_6, .ref fl_7])), (ru, .inr (7, [.int 0, .int 0, .ref ru_2, .ref ru_3, .ref ru_4, .ref ru_5, .ref ru_6, .ref ru_7]))] H) (hD : va_D A [(ho, .inr (2, [.ref fl, .ref pe, .ref ru, .int 0, .ref ho_4, .ref ho_5, .ref ho_6, .int 0, .ref ho_8, .ref ho_9, .ref ho_10, .ref ho_11, .ref ho_12, .int 50])), (pe, .inr (3, [.int 0, .ref pe_1, .ref pe_2, .ref pe_3, .ref pe_4, .ref pe_5, .ref pe_6, .ref pe_7, .ref pe_8, .ref pe_9, .ref pe_10])), (ho_11, .inl (G.2.1, 5, .inl f9)), (ho_12, .inl (G.2.1, 5, .inl f10)), (fl, .inr (1, [.int 0, .int 0, .int 0, .ref fl_3, .ref fl_4, .ref fl_5, .ref fl_6, .ref fl_7])), (ru, .inr (7, [.int 0, .int 0, .ref ru_2, .ref ru_3, .ref ru_4, .ref ru_5, .ref ru_6, .ref ru_7]))]) hS => ?_)
  refine lv_iinc (v := 3) (lv' := [(1, .int 3), (0, .ref ho)]) hx hb dX2_clear_59 hl (k := 0) rfl (by decide +kernel) (by decide) rfl (fun ls hl => ?_)
  refine lv_goto (tgt := 40) hx hb dX2_clear_62 (by decide) ?_
  refine lv_iload_n hx hb dX2_clear_40 rfl (lv_at hl 0 rfl) ?_
  refine lv_iconst (v := 5) hx hb dX2_clear_41 (by decide) ?_
  refine lv_icmp_ge (tgt := 65) hx hb dX2_clear_42 (by decide) (fun h_ => absurd h_ (by decide +kernel)) (fun _ => ?_)
  refine lv_aload_n hx hb dX2_clear_45 rfl (lv_at hl 1 rfl) ?_
  refine g_get F hK hP 0 rfl clX2 11 (by decide) flX2_59 rfl dX2_clear_46 ?_
  refine lv_iload_n hx hb dX2_clear_49 rfl (lv_at hl 0 rfl) ?_
  refine lv_iconst (v := 0) hx hb dX2_clear_50 (by decide) ?_
  refine g_iast F hK hP hD hS 2 rfl (vin (by decide +kernel)) dX2_clear_51 (fun f_ => [(ho, .inr (2, [.ref fl, .ref pe, .ref ru, .int 0, .ref ho_4, .ref ho_5, .ref ho_6, .int 0, .ref ho_8, .ref ho_9, .ref ho_10, .ref ho_11, .ref ho_12, .int 50])), (pe, .inr (3, [.int 0, .ref pe_1, .ref pe_2, .ref pe_3, .ref pe_4, .ref pe_5, .ref pe_6, .ref pe_7, .ref pe_8, .ref pe_9, .ref pe_10])), (ho_11, .inl (G.2.1, 5, .inl f_)), (ho_12, .inl (G.2.1, 5, .inl f10)), (fl, .inr (1, [.int 0, .int 0, .int 0, .ref fl_3, .ref fl_4, .ref fl_5, .ref fl_6, .ref fl_7])), (ru, .inr (7, [.int 0, .int 0, .ref ru_2, .ref ru_3, .ref ru_4, .ref ru_5, .ref ru_6, .ref ru_7]))]) (fun _ => rfl) (fun f11 H locs ef11 (hP : va_P G.1 vwCl [(ho, .inr (2, [.ref fl, .ref pe, .ref ru, .int 0, .ref ho_4, .ref ho_5, .ref ho_6, .int 0, .ref ho_8, .ref ho_9, .ref ho_10, .ref ho_11, .ref ho_12, .int 50])), (pe, .inr (3, [.int 0, .ref pe_1, .ref pe_2, .ref pe_3, .ref pe_4, .ref pe_5, .ref pe_6, .ref pe_7, .ref pe_8, .ref pe_9, .ref pe_10])), (ho_11, .inl (G.2.1, 5, .inl f11)), (ho_12, .inl (G.2.1, 5, .inl f10)), (fl, .inr (1, [.int 0, .int 0, .int 0, .ref fl_3, .ref fl_4, .ref fl_5, .ref fl_6, .ref fl_7])), (ru, .inr (7, [.int 0, .int 0, .ref ru_2, .ref ru_3, .ref ru_4, .ref ru_5, .ref ru_6, .ref ru_7]))] H) (hD : va_D A [(ho, .inr (2, [.ref fl, .ref pe, .ref ru, .int 0, .ref ho_4, .ref ho_5, .ref ho_6, .int 0, .ref ho_8, .ref ho_9, .ref ho_10, .ref ho_11, .ref ho_12, .int 50])), (pe, .inr (3, [.int 0, .ref pe_1, .ref pe_2, .ref pe_3, .ref pe_4, .ref pe_5, .ref pe_6, .ref pe_7, .ref pe_8, .ref pe_9, .ref pe_10])), (ho_11, .inl (G.2.1, 5, .inl f11)), (ho_12, .inl (G.2.1, 5, .inl f10)), (fl, .inr (1, [.int 0, .int 0, .int 0, .ref fl_3, .ref fl_4, .ref fl_5, .ref fl_6, .ref fl_7])), (ru, .inr (7, [.int 0, .int 0, .ref ru_2, .ref ru_3, .ref ru_4, .ref ru_5, .ref ru_6, .ref ru_7]))]) hS => ?_)
  refine lv_aload_n hx hb dX2_clear_52 rfl (lv_at hl 1 rfl) ?_
  refine g_get F hK hP 0 rfl clX2 12 (by decide) flX2_62 rfl dX2_clear_53 ?_
  refine lv_iload_n hx hb dX2_clear_56 rfl (lv_at hl 0 rfl) ?_
  refine lv_iconst (v := 0) hx hb dX2_clear_57 (by decide) ?_
  refine g_iast F hK hP hD hS 3 rfl (vin (by decide +kernel)) dX2_clear_58 (fun f_ => [(ho, .inr (2, [.ref fl, .ref pe, .ref ru, .int 0, .ref ho_4, .ref ho_5, .ref ho_6, .int 0, .ref ho_8, .ref ho_9, .ref ho_10, .ref ho_11, .ref ho_12, .int 50])), (pe, .inr (3, [.int 0, .ref pe_1, .ref pe_2, .ref pe_3, .ref pe_4, .ref pe_5, .ref pe_6, .ref pe_7, .ref pe_8, .ref pe_9, .ref pe_10])), (ho_11, .inl (G.2.1, 5, .inl f11)), (ho_12, .inl (G.2.1, 5, .inl f_)), (fl, .inr (1, [.int 0, .int 0, .int 0, .ref fl_3, .ref fl_4, .ref fl_5, .ref fl_6, .ref fl_7])), (ru, .inr (7, [.int 0, .int 0, .ref ru_2, .ref ru_3, .ref ru_4, .ref ru_5, .ref ru_6, .ref ru_7]))]) (fun _ => rfl) (fun f12 H locs ef12 (hP : va_P G.1 vwCl [(ho, .inr (2, [.ref fl, .ref pe, .ref ru, .int 0, .ref ho_4, .ref ho_5, .ref ho_6, .int 0, .ref ho_8, .ref ho_9, .ref ho_10, .ref ho_11, .ref ho_12, .int 50])), (pe, .inr (3, [.int 0, .ref pe_1, .ref pe_2, .ref pe_3, .ref pe_4, .ref pe_5, .ref pe_6, .ref pe_7, .ref pe_8, .ref pe_9, .ref pe_10])), (ho_11, .inl (G.2.1, 5, .inl f11)), (ho_12, .inl (G.2.1, 5, .inl f12)), (fl, .inr (1, [.int 0, .int 0, .int 0, .ref fl_3, .ref fl_4, .ref fl_5, .ref fl_6, .ref fl_7])), (ru, .inr (7, [.int 0, .int 0, .ref ru_2, .ref ru_3, .ref ru_4, .ref ru_5, .ref ru_6, .ref ru_7]))] H) (hD : va_D A [(ho, .inr (2, [.ref fl, .ref pe, .ref ru, .int 0, .ref ho_4, .ref ho_5, .ref ho_6, .int 0, .ref ho_8, .ref ho_9, .ref ho_10, .ref ho_11, .ref ho_12, .int 50])), (pe, .inr (3, [.int 0, .ref pe_1, .ref pe_2, .ref pe_3, .ref pe_4, .ref pe_5, .ref pe_6, .ref pe_7, .ref pe_8, .ref pe_9, .ref pe_10])), (ho_11, .inl (G.2.1, 5, .inl f11)), (ho_12, .inl (G.2.1, 5, .inl f12)), (fl, .inr (1, [.int 0, .int 0, .int 0, .ref fl_3, .ref fl_4, .ref fl_5, .ref fl_6, .ref fl_7])), (ru, .inr (7, [.int 0, .int 0, .ref ru_2, .ref ru_3, .ref ru_4, .ref ru_5, .ref ru_6, .ref ru_7]))]) hS => ?_)
  refine lv_iinc (v := 4) (lv' := [(1, .int 4), (0, .ref ho)]) hx hb dX2_clear_59 hl (k := 0) rfl (by decide +kernel) (by decide) rfl (fun ls hl => ?_)
  refine lv_goto (tgt := 40) hx hb dX2_clear_62 (by decide) ?_
  refine lv_iload_n hx hb dX2_clear_40 rfl (lv_at hl 0 rfl) ?_
  refine lv_iconst (v := 5) hx hb dX2_clear_41 (by decide) ?_
  refine lv_icmp_ge (tgt := 65) hx hb dX2_clear_42 (by decide) (fun h_ => absurd h_ (by decide +kernel)) (fun _ => ?_)
  refine lv_aload_n hx hb dX2_clear_45 rfl (lv_at hl 1 rfl) ?_
  refine g_get F hK hP 0 rfl clX2 11 (by decide) flX2_59 rfl dX2_clear_46 ?_
  refine lv_iload_n hx hb dX2_clear_49 rfl (lv_at hl 0 rfl) ?_
  refine lv_iconst (v := 0) hx hb dX2_clear_50 (by decide) ?_
  refine g_iast F hK hP hD hS 2 rfl (vin (by decide +kernel)) dX2_clear_51 (fun f_ => [(ho, .inr (2, [.ref fl, .ref pe, .ref ru, .int 0, .ref ho_4, .ref ho_5, .ref ho_6, .int 0, .ref ho_8, .ref ho_9, .ref ho_10, .ref ho_11, .ref ho_12, .int 50])), (pe, .inr (3, [.int 0, .ref pe_1, .ref pe_2, .ref pe_3, .ref pe_4, .ref pe_5, .ref pe_6, .ref pe_7, .ref pe_8, .ref pe_9, .ref pe_10])), (ho_11, .inl (G.2.1, 5, .inl f_)), (ho_12, .inl (G.2.1, 5, .inl f12)), (fl, .inr (1, [.int 0, .int 0, .int 0, .ref fl_3, .ref fl_4, .ref fl_5, .ref fl_6, .ref fl_7])), (ru, .inr (7, [.int 0, .int 0, .ref ru_2, .ref ru_3, .ref ru_4, .ref ru_5, .ref ru_6, .ref ru_7]))]) (fun _ => rfl) (fun f13 H locs ef13 (hP : va_P G.1 vwCl [(ho, .inr (2, [.ref fl, .ref pe, .ref ru, .int 0, .ref ho_4, .ref ho_5, .ref ho_6, .int 0, .ref ho_8, .ref ho_9, .ref ho_10, .ref ho_11, .ref ho_12, .int 50])), (pe, .inr (3, [.int 0, .ref pe_1, .ref pe_2, .ref pe_3, .ref pe_4, .ref pe_5, .ref pe_6, .ref pe_7, .ref pe_8, .ref pe_9, .ref pe_10])), (ho_11, .inl (G.2.1, 5, .inl f13)), (ho_12, .inl (G.2.1, 5, .inl f12)), (fl, .inr (1, [.int 0, .int 0, .int 0, .ref fl_3, .ref fl_4, .ref fl_5, .ref fl_6, .ref fl_7])), (ru, .inr (7, [.int 0, .int 0, .ref ru_2, .ref ru_3, .ref ru_4, .ref ru_5, .ref ru_6, .ref ru_7]))] H) (hD : va_D A [(ho, .inr (2, [.ref fl, .ref pe, .ref ru, .int 0, .ref ho_4, .ref ho_5, .ref ho_6, .int 0, .ref ho_8, .ref ho_9, .ref ho_10, .ref ho_11, .ref ho_12, .int 50])), (pe, .inr (3, [.int 0, .ref pe_1, .ref pe_2, .ref pe_3, .ref pe_4, .ref pe_5, .ref pe_6, .ref pe_7, .ref pe_8, .ref pe_9, .ref pe_10])), (ho_11, .inl (G.2.1, 5, .inl f13)), (ho_12, .inl (G.2.1, 5, .inl f12)), (fl, .inr (1, [.int 0, .int 0, .int 0, .ref fl_3, .ref fl_4, .ref fl_5, .ref fl_6, .ref fl_7])), (ru, .inr (7, [.int 0, .int 0, .ref ru_2, .ref ru_3, .ref ru_4, .ref ru_5, .ref ru_6, .ref ru_7]))]) hS => ?_)
  refine lv_aload_n hx hb dX2_clear_52 rfl (lv_at hl 1 rfl) ?_
  refine g_get F hK hP 0 rfl clX2 12 (by decide) flX2_62 rfl dX2_clear_53 ?_
  refine lv_iload_n hx hb dX2_clear_56 rfl (lv_at hl 0 rfl) ?_
  refine lv_iconst (v := 0) hx hb dX2_clear_57 (by decide) ?_
  refine g_iast F hK hP hD hS 3 rfl (vin (by decide +kernel)) dX2_clear_58 (fun f_ => [(ho, .inr (2, [.ref fl, .ref pe, .ref ru, .int 0, .ref ho_4, .ref ho_5, .ref ho_6, .int 0, .ref ho_8, .ref ho_9, .ref ho_10, .ref ho_11, .ref ho_12, .int 50])), (pe, .inr (3, [.int 0, .ref pe_1, .ref pe_2, .ref pe_3, .ref pe_4, .ref pe_5, .ref pe_6, .ref pe_7, .ref pe_8, .ref pe_9, .ref pe_10])), (ho_11, .inl (G.2.1, 5, .inl f13)), (ho_12, .inl (G.2.1, 5, .inl f_)), (fl, .inr (1, [.int 0, .int 0, .int 0, .ref fl_3, .ref fl_4, .ref fl_5, .ref fl_6, .ref fl_7])), (ru, .inr (7, [.int 0, .int 0, .ref ru_2, .ref ru_3, .ref ru_4, .ref ru_5, .ref ru_6, .ref ru_7]))]) (fun _ => rfl) (fun f14 H locs ef14 (hP : va_P G.1 vwCl [(ho, .inr (2, [.ref fl, .ref pe, .ref ru, .int 0, .ref ho_4, .ref ho_5, .ref ho_6, .int 0, .ref ho_8, .ref ho_9, .ref ho_10, .ref ho_11, .ref ho_12, .int 50])), (pe, .inr (3, [.int 0, .ref pe_1, .ref pe_2, .ref pe_3, .ref pe_4, .ref pe_5, .ref pe_6, .ref pe_7, .ref pe_8, .ref pe_9, .ref pe_10])), (ho_11, .inl (G.2.1, 5, .inl f13)), (ho_12, .inl (G.2.1, 5, .inl f14)), (fl, .inr (1, [.int 0, .int 0, .int 0, .ref fl_3, .ref fl_4, .ref fl_5, .ref fl_6, .ref fl_7])), (ru, .inr (7, [.int 0, .int 0, .ref ru_2, .ref ru_3, .ref ru_4, .ref ru_5, .ref ru_6, .ref ru_7]))] H) (hD : va_D A [(ho, .inr (2, [.ref fl, .ref pe, .ref ru, .int 0, .ref ho_4, .ref ho_5, .ref ho_6, .int 0, .ref ho_8, .ref ho_9, .ref ho_10, .ref ho_11, .ref ho_12, .int 50])), (pe, .inr (3, [.int 0, .ref pe_1, .ref pe_2, .ref pe_3, .ref pe_4, .ref pe_5, .ref pe_6, .ref pe_7, .ref pe_8, .ref pe_9, .ref pe_10])), (ho_11, .inl (G.2.1, 5, .inl f13)), (ho_12, .inl (G.2.1, 5, .inl f14)), (fl, .inr (1, [.int 0, .int 0, .int 0, .ref fl_3, .ref fl_4, .ref fl_5, .ref fl_6, .ref fl_7])), (ru, .inr (7, [.int 0, .int 0, .ref ru_2, .ref ru_3, .ref ru_4, .ref ru_5, .ref ru_6, .ref ru_7]))]) hS => ?_)
  refine lv_iinc (v := 5) (lv' := [(1, .int 5), (0, .ref ho)]) hx hb dX2_clear_59 hl (k := 0) rfl (by decide +kernel) (by decide) rfl (fun ls hl => ?_)
  refine lv_goto (tgt := 40) hx hb dX2_clear_62 (by decide) ?_
  refine lv_iload_n hx hb dX2_clear_40 rfl (lv_at hl 0 rfl) ?_
  refine lv_iconst (v := 5) hx hb dX2_clear_41 (by decide) ?_
  refine lv_icmp_ge (tgt := 65) hx hb dX2_clear_42 (by decide) (fun _ => ?_) (fun h_ => absurd (by decide +kernel) h_)
  exact r_v F hr hlk hP hD hS () [0, 4, 1, 5] rfl rfl trivial dX2_clear_65 (Nat.le_of_ble_eq_true rfl) (Nat.le_of_ble_eq_true rfl)
set_option maxHeartbeats 4000000 in
set_option maxRecDepth 100000 in
theorem k_X3_listSuiting (l : Launch) (G : Gx) (pe : Nat) (pe_1 : Nat) (pe_2 : Nat) (pe_3 : Nat) (pe_4 : Nat) (pe_5 : Nat) (pe_6 : Nat) (pe_7 : Nat) (pe_8 : Nat) (pe_9 : Nat) (pe_10 : Nat)  : CtV (S := Unit) l yX3_listSuiting cX3_listSuiting 4 none (rmD 1 0 0) G [.ref pe] [(pe, .inr (3, [.int 0, .ref pe_1, .ref pe_2, .ref pe_3, .ref pe_4, .ref pe_5, .ref pe_6, .ref pe_7, .ref pe_8, .ref pe_9, .ref pe_10]))] (fun _ => True) (fun _ => [(pe, .inr (3, [.int 0, .ref pe_1, .ref pe_2, .ref pe_3, .ref pe_4, .ref pe_5, .ref pe_6, .ref pe_7, .ref pe_8, .ref pe_9, .ref pe_10]))]) := by
  refine ctV_of (own := RX3) (by decide +kernel) rfl (Nat.le_of_ble_eq_true rfl) ?_
  intro p e s m below meth c A ls F hr hlk hnm hK hP hD hA hS hl
  have hx := F.1
  have hb := F.2.1
  have hown := F.2.2.2.1
  have hl : lv_has ls 4 [(0, .ref pe)] := hl
  refine lv_iconst (v := 0) hx hb dX3_listSuiting_0 (by decide) ?_
  refine lv_istore_n (lv' := [(1, .int 0), (0, .ref pe)]) hx hb dX3_listSuiting_1 rfl hl (by decide) rfl (fun ls hl => ?_)
  refine lv_iload_n hx hb dX3_listSuiting_2 rfl (lv_at hl 0 rfl) ?_
  refine lv_aload_n hx hb dX3_listSuiting_3 rfl (lv_at hl 1 rfl) ?_
  refine g_get F hK hP 0 rfl clX3 0 (by decide) flX3_9 rfl dX3_listSuiting_4 ?_
  refine lv_icmp_ge (tgt := 69) hx hb dX3_listSuiting_7 (by decide) (fun _ => ?_) (fun h_ => absurd (by decide +kernel) h_)
  exact r_v F hr hlk hP hD hS () [0] rfl rfl trivial dX3_listSuiting_69 (Nat.le_of_ble_eq_true rfl) (Nat.le_of_ble_eq_true rfl)
set_option maxHeartbeats 4000000 in
set_option maxRecDepth 100000 in
theorem k_X2_finish (l : Launch) (G : Gx) (ho : Nat) (fl : Nat) (pe : Nat) (ru : Nat) (ho_4 : Nat) (ho_5 : Nat) (ho_6 : Nat) (ho_8 : Nat) (ho_9 : Nat) (ho_10 : Nat) (ho_11 : Nat) (ho_12 : Nat) (fl_3 : Nat) (fl_4 : Nat) (fl_5 : Nat) (fl_6 : Nat) (fl_7 : Nat) (pe_1 : Nat) (pe_2 : Nat) (pe_3 : Nat) (pe_4 : Nat) (pe_5 : Nat) (pe_6 : Nat) (pe_7 : Nat) (pe_8 : Nat) (pe_9 : Nat) (pe_10 : Nat) (ru_2 : Nat) (ru_3 : Nat) (ru_4 : Nat) (ru_5 : Nat) (ru_6 : Nat) (ru_7 : Nat)  : CtV (S := Unit) l yX2_finish cX2_finish 2 none (rmD 2 0 0) G [.ref ho] [(ho, .inr (2, [.ref fl, .ref pe, .ref ru, .int 0, .ref ho_4, .ref ho_5, .ref ho_6, .int 0, .ref ho_8, .ref ho_9, .ref ho_10, .ref ho_11, .ref ho_12, .int 50])), (fl, .inr (1, [.int 0, .int 0, .int 0, .ref fl_3, .ref fl_4, .ref fl_5, .ref fl_6, .ref fl_7])), (pe, .inr (3, [.int 0, .ref pe_1, .ref pe_2, .ref pe_3, .ref pe_4, .ref pe_5, .ref pe_6, .ref pe_7, .ref pe_8, .ref pe_9, .ref pe_10])), (ru, .inr (7, [.int 0, .int 0, .ref ru_2, .ref ru_3, .ref ru_4, .ref ru_5, .ref ru_6, .ref ru_7])), (ho_6, .inl (G.2.1, 6, .inl (fun _ => 0)))] (fun _ => True) (fun _ => [(ho, .inr (2, [.ref fl, .ref pe, .ref ru, .int 0, .ref ho_4, .ref ho_5, .ref ho_6, .int 0, .ref ho_8, .ref ho_9, .ref ho_10, .ref ho_11, .ref ho_12, .int 50])), (fl, .inr (1, [.int 0, .int 0, .int 0, .ref fl_3, .ref fl_4, .ref fl_5, .ref fl_6, .ref fl_7])), (pe, .inr (3, [.int 0, .ref pe_1, .ref pe_2, .ref pe_3, .ref pe_4, .ref pe_5, .ref pe_6, .ref pe_7, .ref pe_8, .ref pe_9, .ref pe_10])), (ru, .inr (7, [.int 0, .int 0, .ref ru_2, .ref ru_3, .ref ru_4, .ref ru_5, .ref ru_6, .ref ru_7]))]) := by
  refine ctV_of (own := RX2) (by decide +kernel) rfl (Nat.le_of_ble_eq_true rfl) ?_
  intro p e s m below meth c A ls F hr hlk hnm hK hP hD hA hS hl
  have hx := F.1
  have hb := F.2.1
  have hown := F.2.2.2.1
  have hl : lv_has ls 2 [(0, .ref ho)] := hl
  refine lv_aload_n hx hb dX2_finish_0 rfl (lv_at hl 0 rfl) ?_
  refine g_get F hK hP 0 rfl clX2 1 (by decide) flX2_21 rfl dX2_finish_1 ?_
  refine cvv (wr := [(ho, .inr (2, [.ref fl, .ref pe, .ref ru, .int 0, .ref ho_4, .ref ho_5, .ref ho_6, .int 0, .ref ho_8, .ref ho_9, .ref ho_10, .ref ho_11, .ref ho_12, .int 50])), (fl, .inr (1, [.int 0, .int 0, .int 0, .ref fl_3, .ref fl_4, .ref fl_5, .ref fl_6, .ref fl_7])), (ru, .inr (7, [.int 0, .int 0, .ref ru_2, .ref ru_3, .ref ru_4, .ref ru_5, .ref ru_6, .ref ru_7])), (ho_6, .inl (G.2.1, 6, .inl (fun _ => 0)))]) (As := []) (rest := []) (b := pe) (k1 := 0) (s1 := 0) F hK hP hD hS hA (k_X3_listSuiting l G pe pe_1 pe_2 pe_3 pe_4 pe_5 pe_6 pe_7 pe_8 pe_9 pe_10) kmV_X3_listSuiting mlX2_75 clX3 rfl 0 rfl ⟨(Nat.le_of_ble_eq_true rfl), (Nat.le_of_ble_eq_true rfl)⟩ [2] [0, 1, 3, 4] rfl rfl rfl rfl (by decide) hl.1 rfl (Nat.le_of_ble_eq_true rfl) dX2_finish_4 ⟨(Nat.le_of_ble_eq_true rfl), (Nat.le_of_ble_eq_true rfl)⟩ rfl rfl (fun u1 H locs hwr2 (hP : va_P G.1 vwCl [(ho, .inr (2, [.ref fl, .ref pe, .ref ru, .int 0, .ref ho_4, .ref ho_5, .ref ho_6, .int 0, .ref ho_8, .ref ho_9, .ref ho_10, .ref ho_11, .ref ho_12, .int 50])), (fl, .inr (1, [.int 0, .int 0, .int 0, .ref fl_3, .ref fl_4, .ref fl_5, .ref fl_6, .ref fl_7])), (ru, .inr (7, [.int 0, .int 0, .ref ru_2, .ref ru_3, .ref ru_4, .ref ru_5, .ref ru_6, .ref ru_7])), (ho_6, .inl (G.2.1, 6, .inl (fun _ => 0))), (pe, .inr (3, [.int 0, .ref pe_1, .ref pe_2, .ref pe_3, .ref pe_4, .ref pe_5, .ref pe_6, .ref pe_7, .ref pe_8, .ref pe_9, .ref pe_10]))] H) (hD : va_D A [(ho, .inr (2, [.ref fl, .ref pe, .ref ru, .int 0, .ref ho_4, .ref ho_5, .ref ho_6, .int 0, .ref ho_8, .ref ho_9, .ref ho_10, .ref ho_11, .ref ho_12, .int 50])), (fl, .inr (1, [.int 0, .int 0, .int 0, .ref fl_3, .ref fl_4, .ref fl_5, .ref fl_6, .ref fl_7])), (ru, .inr (7, [.int 0, .int 0, .ref ru_2, .ref ru_3, .ref ru_4, .ref ru_5, .ref ru_6, .ref ru_7])), (ho_6, .inl (G.2.1, 6, .inl (fun _ => 0))), (pe, .inr (3, [.int 0, .ref pe_1, .ref pe_2, .ref pe_3, .ref pe_4, .ref pe_5, .ref pe_6, .ref pe_7, .ref pe_8, .ref pe_9, .ref pe_10]))]) hS => ?_)
  refine lv_iconst (v := 0) hx hb dX2_finish_7 (by decide) ?_
  refine lv_istore_n (lv' := [(1, .int 0), (0, .ref ho)]) hx hb dX2_finish_8 rfl hl (by decide) rfl (fun ls hl => ?_)
  refine lv_iload_n hx hb dX2_finish_9 rfl (lv_at hl 0 rfl) ?_
  refine lv_bipush (v := 6) hx hb dX2_finish_10 (by decide) ?_
  refine lv_icmp_ge (tgt := 28) hx hb dX2_finish_12 (by decide) (fun h_ => absurd h_ (by decide +kernel)) (fun _ => ?_)
  refine lv_aload_n hx hb dX2_finish_15 rfl (lv_at hl 1 rfl) ?_
  refine g_get F hK hP 0 rfl clX2 6 (by decide) flX2_44 rfl dX2_finish_16 ?_
  refine lv_iload_n hx hb dX2_finish_19 rfl (lv_at hl 0 rfl) ?_
  refine lv_iconst (v := (-1)) hx hb dX2_finish_20 (by decide) ?_
  refine g_iast F hK hP hD hS 3 rfl (vin (by decide +kernel)) dX2_finish_21 (fun f_ => [(ho, .inr (2, [.ref fl, .ref pe, .ref ru, .int 0, .ref ho_4, .ref ho_5, .ref ho_6, .int 0, .ref ho_8, .ref ho_9, .ref ho_10, .ref ho_11, .ref ho_12, .int 50])), (fl, .inr (1, [.int 0, .int 0, .int 0, .ref fl_3, .ref fl_4, .ref fl_5, .ref fl_6, .ref fl_7])), (ru, .inr (7, [.int 0, .int 0, .ref ru_2, .ref ru_3, .ref ru_4, .ref ru_5, .ref ru_6, .ref ru_7])), (ho_6, .inl (G.2.1, 6, .inl f_)), (pe, .inr (3, [.int 0, .ref pe_1, .ref pe_2, .ref pe_3, .ref pe_4, .ref pe_5, .ref pe_6, .ref pe_7, .ref pe_8, .ref pe_9, .ref pe_10]))]) (fun _ => rfl) (fun f3 H locs ef3 (hP : va_P G.1 vwCl [(ho, .inr (2, [.ref fl, .ref pe, .ref ru, .int 0, .ref ho_4, .ref ho_5, .ref ho_6, .int 0, .ref ho_8, .ref ho_9, .ref ho_10, .ref ho_11, .ref ho_12, .int 50])), (fl, .inr (1, [.int 0, .int 0, .int 0, .ref fl_3, .ref fl_4, .ref fl_5, .ref fl_6, .ref fl_7])), (ru, .inr (7, [.int 0, .int 0, .ref ru_2, .ref ru_3, .ref ru_4, .ref ru_5, .ref ru_6, .ref ru_7])), (ho_6, .inl (G.2.1, 6, .inl f3)), (pe, .inr (3, [.int 0, .ref pe_1, .ref pe_2, .ref pe_3, .ref pe_4, .ref pe_5, .ref pe_6, .ref pe_7, .ref pe_8, .ref pe_9, .ref pe_10]))] H) (hD : va_D A [(ho, .inr (2, [.ref fl, .ref pe, .ref ru, .int 0, .ref ho_4, .ref ho_5, .ref ho_6, .int 0, .ref ho_8, .ref ho_9, .ref ho_10, .ref ho_11, .ref ho_12, .int 50])), (fl, .inr (1, [.int 0, .int 0, .int 0, .ref fl_3, .ref fl_4, .ref fl_5, .ref fl_6, .ref fl_7])), (ru, .inr (7, [.int 0, .int 0, .ref ru_2, .ref ru_3, .ref ru_4, .ref ru_5, .ref ru_6, .ref ru_7])), (ho_6, .inl (G.2.1, 6, .inl f3)), (pe, .inr (3, [.int 0, .ref pe_1, .ref pe_2, .ref pe_3, .ref pe_4, .ref pe_5, .ref pe_6, .ref pe_7, .ref pe_8, .ref pe_9, .ref pe_10]))]) hS => ?_)
  refine lv_iinc (v := 1) (lv' := [(1, .int 1), (0, .ref ho)]) hx hb dX2_finish_22 hl (k := 0) rfl (by decide +kernel) (by decide) rfl (fun ls hl => ?_)
  refine lv_goto (tgt := 9) hx hb dX2_finish_25 (by decide) ?_
  refine lv_iload_n hx hb dX2_finish_9 rfl (lv_at hl 0 rfl) ?_
  refine lv_bipush (v := 6) hx hb dX2_finish_10 (by decide) ?_
  refine lv_icmp_ge (tgt := 28) hx hb dX2_finish_12 (by decide) (fun h_ => absurd h_ (by decide +kernel)) (fun _ => ?_)
  refine lv_aload_n hx hb dX2_finish_15 rfl (lv_at hl 1 rfl) ?_
  refine g_get F hK hP 0 rfl clX2 6 (by decide) flX2_44 rfl dX2_finish_16 ?_
  refine lv_iload_n hx hb dX2_finish_19 rfl (lv_at hl 0 rfl) ?_
  refine lv_iconst (v := (-1)) hx hb dX2_finish_20 (by decide) ?_
  refine g_iast F hK hP hD hS 3 rfl (vin (by decide +kernel)) dX2_finish_21 (fun f_ => [(ho, .inr (2, [.ref fl, .ref pe, .ref ru, .int 0, .ref ho_4, .ref ho_5, .ref ho_6, .int 0, .ref ho_8, .ref ho_9, .ref ho_10, .ref ho_11, .ref ho_12, .int 50])), (fl, .inr (1, [.int 0, .int 0, .int 0, .ref fl_3, .ref fl_4, .ref fl_5, .ref fl_6, .ref fl_7])), (ru, .inr (7, [.int 0, .int 0, .ref ru_2, .ref ru_3, .ref ru_4, .ref ru_5, .ref ru_6, .ref ru_7])), (ho_6, .inl (G.2.1, 6, .inl f_)), (pe, .inr (3, [.int 0, .ref pe_1, .ref pe_2, .ref pe_3, .ref pe_4, .ref pe_5, .ref pe_6, .ref pe_7, .ref pe_8, .ref pe_9, .ref pe_10]))]) (fun _ => rfl) (fun f4 H locs ef4 (hP : va_P G.1 vwCl [(ho, .inr (2, [.ref fl, .ref pe, .ref ru, .int 0, .ref ho_4, .ref ho_5, .ref ho_6, .int 0, .ref ho_8, .ref ho_9, .ref ho_10, .ref ho_11, .ref ho_12, .int 50])), (fl, .inr (1, [.int 0, .int 0, .int 0, .ref fl_3, .ref fl_4, .ref fl_5, .ref fl_6, .ref fl_7])), (ru, .inr (7, [.int 0, .int 0, .ref ru_2, .ref ru_3, .ref ru_4, .ref ru_5, .ref ru_6, .ref ru_7])), (ho_6, .inl (G.2.1, 6, .inl f4)), (pe, .inr (3, [.int 0, .ref pe_1, .ref pe_2, .ref pe_3, .ref pe_4, .ref pe_5, .ref pe_6, .ref pe_7, .ref pe_8, .ref pe_9, .ref pe_10]))] H) (hD : va_D A [(ho, .inr (2, [.ref fl, .ref pe, .ref ru, .int 0, .ref ho_4, .ref ho_5, .ref ho_6, .int 0, .ref ho_8, .ref ho_9, .ref ho_10, .ref ho_11, .ref ho_12, .int 50])), (fl, .inr (1, [.int 0, .int 0, .int 0, .ref fl_3, .ref fl_4, .ref fl_5, .ref fl_6, .ref fl_7])), (ru, .inr (7, [.int 0, .int 0, .ref ru_2, .ref ru_3, .ref ru_4, .ref ru_5, .ref ru_6, .ref ru_7])), (ho_6, .inl (G.2.1, 6, .inl f4)), (pe, .inr (3, [.int 0, .ref pe_1, .ref pe_2, .ref pe_3, .ref pe_4, .ref pe_5, .ref pe_6, .ref pe_7, .ref pe_8, .ref pe_9, .ref pe_10]))]) hS => ?_)
  refine lv_iinc (v := 2) (lv' := [(1, .int 2), (0, .ref ho)]) hx hb dX2_finish_22 hl (k := 0) rfl (by decide +kernel) (by decide) rfl (fun ls hl => ?_)
  refine lv_goto (tgt := 9) hx hb dX2_finish_25 (by decide) ?_
  refine lv_iload_n hx hb dX2_finish_9 rfl (lv_at hl 0 rfl) ?_
  refine lv_bipush (v := 6) hx hb dX2_finish_10 (by decide) ?_
  refine lv_icmp_ge (tgt := 28) hx hb dX2_finish_12 (by decide) (fun h_ => absurd h_ (by decide +kernel)) (fun _ => ?_)
  refine lv_aload_n hx hb dX2_finish_15 rfl (lv_at hl 1 rfl) ?_
  refine g_get F hK hP 0 rfl clX2 6 (by decide) flX2_44 rfl dX2_finish_16 ?_
  refine lv_iload_n hx hb dX2_finish_19 rfl (lv_at hl 0 rfl) ?_
  refine lv_iconst (v := (-1)) hx hb dX2_finish_20 (by decide) ?_
  refine g_iast F hK hP hD hS 3 rfl (vin (by decide +kernel)) dX2_finish_21 (fun f_ => [(ho, .inr (2, [.ref fl, .ref pe, .ref ru, .int 0, .ref ho_4, .ref ho_5, .ref ho_6, .int 0, .ref ho_8, .ref ho_9, .ref ho_10, .ref ho_11, .ref ho_12, .int 50])), (fl, .inr (1, [.int 0, .int 0, .int 0, .ref fl_3, .ref fl_4, .ref fl_5, .ref fl_6, .ref fl_7])), (ru, .inr (7, [.int 0, .int 0, .ref ru_2, .ref ru_3, .ref ru_4, .ref ru_5, .ref ru_6, .ref ru_7])), (ho_6, .inl (G.2.1, 6, .inl f_)), (pe, .inr (3, [.int 0, .ref pe_1, .ref pe_2, .ref pe_3, .ref pe_4, .ref pe_5, .ref pe_6, .ref pe_7, .ref pe_8, .ref pe_9, .ref pe_10]))]) (fun _ => rfl) (fun f5 H locs ef5 (hP : va_P G.1 vwCl [(ho, .inr (2, [.ref fl, .ref pe, .ref ru, .int 0, .ref ho_4, .ref ho_5, .ref ho_6, .int 0, .ref ho_8, .ref ho_9, .ref ho_10, .ref ho_11, .ref ho_12, .int 50])), (fl, .inr (1, [.int 0, .int 0, .int 0, .ref fl_3, .ref fl_4, .ref fl_5, .ref fl_6, .ref fl_7])), (ru, .inr (7, [.int 0, .int 0, .ref ru_2, .ref ru_3, .ref ru_4, .ref ru_5, .ref ru_6, .ref ru_7])), (ho_6, .inl (G.2.1, 6, .inl f5)), (pe, .inr (3, [.int 0, .ref pe_1, .ref pe_2, .ref pe_3, .ref pe_4, .ref pe_5, .ref pe_6, .ref pe_7, .ref pe_8, .ref pe_9, .ref pe_10]))] H) (hD : va_D A [(ho, .inr (2, [.ref fl, .ref pe, .ref ru, .int 0, .ref ho_4, .ref ho_5, .ref ho_6, .int 0, .ref ho_8, .ref ho_9, .ref ho_10, .ref ho_11, .ref ho_12, .int 50])), (fl, .inr (1, [.int 0, .int 0, .int 0, .ref fl_3, .ref fl_4, .ref fl_5, .ref fl_6, .ref fl_7])), (ru, .inr (7, [.int 0, .int 0, .ref ru_2, .ref ru_3, .ref ru_4, .ref ru_5, .ref ru_6, .ref ru_7])), (ho_6, .inl (G.2.1, 6, .inl f5)), (pe, .inr (3, [.int 0, .ref pe_1, .ref pe_2, .ref pe_3, .ref pe_4, .ref pe_5, .ref pe_6, .ref pe_7, .ref pe_8, .ref pe_9, .ref pe_10]))]) hS => ?_)
  refine lv_iinc (v := 3) (lv' := [(1, .int 3), (0, .ref ho)]) hx hb dX2_finish_22 hl (k := 0) rfl (by decide +kernel) (by decide) rfl (fun ls hl => ?_)
  refine lv_goto (tgt := 9) hx hb dX2_finish_25 (by decide) ?_
  refine lv_iload_n hx hb dX2_finish_9 rfl (lv_at hl 0 rfl) ?_
  refine lv_bipush (v := 6) hx hb dX2_finish_10 (by decide) ?_
  refine lv_icmp_ge (tgt := 28) hx hb dX2_finish_12 (by decide) (fun h_ => absurd h_ (by decide +kernel)) (fun _ => ?_)
  refine lv_aload_n hx hb dX2_finish_15 rfl (lv_at hl 1 rfl) ?_
  refine g_get F hK hP 0 rfl clX2 6 (by decide) flX2_44 rfl dX2_finish_16 ?_
  refine lv_iload_n hx hb dX2_finish_19 rfl (lv_at hl 0 rfl) ?_
  refine lv_iconst (v := (-1)) hx hb dX2_finish_20 (by decide) ?_
  refine g_iast F hK hP hD hS 3 rfl (vin (by decide +kernel)) dX2_finish_21 (fun f_ => [(ho, .inr (2, [.ref fl, .ref pe, .ref ru, .int 0, .ref ho_4, .ref ho_5, .ref ho_6, .int 0, .ref ho_8, .ref ho_9, .ref ho_10, .ref ho_11, .ref ho_12, .int 50])), (fl, .inr (1, [.int 0, .int 0, .int 0, .ref fl_3, .ref fl_4, .ref fl_5, .ref fl_6, .ref fl_7])), (ru, .inr (7, [.int 0, .int 0, .ref ru_2, .ref ru_3, .ref ru_4, .ref ru_5, .ref ru_6, .ref ru_7])), (ho_6, .inl (G.2.1, 6, .inl f_)), (pe, .inr (3, [.int 0, .ref pe_1, .ref pe_2, .ref pe_3, .ref pe_4, .ref pe_5, .ref pe_6, .ref pe_7, .ref pe_8, .ref pe_9, .ref pe_10]))]) (fun _ => rfl) (fun f6 H locs ef6 (hP : va_P G.1 vwCl [(ho, .inr (2, [.ref fl, .ref pe, .ref ru, .int 0, .ref ho_4, .ref ho_5, .ref ho_6, .int 0, .ref ho_8, .ref ho_9, .ref ho_10, .ref ho_11, .ref ho_12, .int 50])), (fl, .inr (1, [.int 0, .int 0, .int 0, .ref fl_3, .ref fl_4, .ref fl_5, .ref fl_6, .ref fl_7])), (ru, .inr (7, [.int 0, .int 0, .ref ru_2, .ref ru_3, .ref ru_4, .ref ru_5, .ref ru_6, .ref ru_7])), (ho_6, .inl (G.2.1, 6, .inl f6)), (pe, .inr (3, [.int 0, .ref pe_1, .ref pe_2, .ref pe_3, .ref pe_4, .ref pe_5, .ref pe_6, .ref pe_7, .ref pe_8, .ref pe_9, .ref pe_10]))] H) (hD : va_D A [(ho, .inr (2, [.ref fl, .ref pe, .ref ru, .int 0, .ref ho_4, .ref ho_5, .ref ho_6, .int 0, .ref ho_8, .ref ho_9, .ref ho_10, .ref ho_11, .ref ho_12, .int 50])), (fl, .inr (1, [.int 0, .int 0, .int 0, .ref fl_3, .ref fl_4, .ref fl_5, .ref fl_6, .ref fl_7])), (ru, .inr (7, [.int 0, .int 0, .ref ru_2, .ref ru_3, .ref ru_4, .ref ru_5, .ref ru_6, .ref ru_7])), (ho_6, .inl (G.2.1, 6, .inl f6)), (pe, .inr (3, [.int 0, .ref pe_1, .ref pe_2, .ref pe_3, .ref pe_4, .ref pe_5, .ref pe_6, .ref pe_7, .ref pe_8, .ref pe_9, .ref pe_10]))]) hS => ?_)
  refine lv_iinc (v := 4) (lv' := [(1, .int 4), (0, .ref ho)]) hx hb dX2_finish_22 hl (k := 0) rfl (by decide +kernel) (by decide) rfl (fun ls hl => ?_)
  refine lv_goto (tgt := 9) hx hb dX2_finish_25 (by decide) ?_
  refine lv_iload_n hx hb dX2_finish_9 rfl (lv_at hl 0 rfl) ?_
  refine lv_bipush (v := 6) hx hb dX2_finish_10 (by decide) ?_
  refine lv_icmp_ge (tgt := 28) hx hb dX2_finish_12 (by decide) (fun h_ => absurd h_ (by decide +kernel)) (fun _ => ?_)
  refine lv_aload_n hx hb dX2_finish_15 rfl (lv_at hl 1 rfl) ?_
  refine g_get F hK hP 0 rfl clX2 6 (by decide) flX2_44 rfl dX2_finish_16 ?_
  refine lv_iload_n hx hb dX2_finish_19 rfl (lv_at hl 0 rfl) ?_
  refine lv_iconst (v := (-1)) hx hb dX2_finish_20 (by decide) ?_
  refine g_iast F hK hP hD hS 3 rfl (vin (by decide +kernel)) dX2_finish_21 (fun f_ => [(ho, .inr (2, [.ref fl, .ref pe, .ref ru, .int 0, .ref ho_4, .ref ho_5, .ref ho_6, .int 0, .ref ho_8, .ref ho_9, .ref ho_10, .ref ho_11, .ref ho_12, .int 50])), (fl, .inr (1, [.int 0, .int 0, .int 0, .ref fl_3, .ref fl_4, .ref fl_5, .ref fl_6, .ref fl_7])), (ru, .inr (7, [.int 0, .int 0, .ref ru_2, .ref ru_3, .ref ru_4, .ref ru_5, .ref ru_6, .ref ru_7])), (ho_6, .inl (G.2.1, 6, .inl f_)), (pe, .inr (3, [.int 0, .ref pe_1, .ref pe_2, .ref pe_3, .ref pe_4, .ref pe_5, .ref pe_6, .ref pe_7, .ref pe_8, .ref pe_9, .ref pe_10]))]) (fun _ => rfl) (fun f7 H locs ef7 (hP : va_P G.1 vwCl [(ho, .inr (2, [.ref fl, .ref pe, .ref ru, .int 0, .ref ho_4, .ref ho_5, .ref ho_6, .int 0, .ref ho_8, .ref ho_9, .ref ho_10, .ref ho_11, .ref ho_12, .int 50])), (fl, .inr (1, [.int 0, .int 0, .int 0, .ref fl_3, .ref fl_4, .ref fl_5, .ref fl_6, .ref fl_7])), (ru, .inr (7, [.int 0, .int 0, .ref ru_2, .ref ru_3, .ref ru_4, .ref ru_5, .ref ru_6, .ref ru_7])), (ho_6, .inl (G.2.1, 6, .inl f7)), (pe, .inr (3, [.int 0, .ref pe_1, .ref pe_2, .ref pe_3, .ref pe_4, .ref pe_5, .ref pe_6, .ref pe_7, .ref pe_8, .ref pe_9, .ref pe_10]))] H) (hD : va_D A [(ho, .inr (2, [.ref fl, .ref pe, .ref ru, .int 0, .ref ho_4, .ref ho_5, .ref ho_6, .int 0, .ref ho_8, .ref ho_9, .ref ho_10, .ref ho_11, .ref ho_12, .int 50])), (fl, .inr (1, [.int 0, .int 0, .int 0, .ref fl_3, .ref fl_4, .ref fl_5, .ref fl_6, .ref fl_7])), (ru, .inr (7, [.int 0, .int 0, .ref ru_2, .ref ru_3, .ref ru_4, .ref ru_5, .ref ru_6, .ref ru_7])), (ho_6, .inl (G.2.1, 6, .inl f7)), (pe, .inr (3, [.int 0, .ref pe_1, .ref pe_2, .ref pe_3, .ref pe_4, .ref pe_5, .ref pe_6, .ref pe_7, .ref pe_8, .ref pe_9, .ref pe_10]))]) hS => ?_)
  refine lv_iinc (v := 5) (lv' := [(1, .int 5), (0, .ref ho)]) hx hb dX2_finish_22 hl (k := 0) rfl (by decide +kernel) (by decide) rfl (fun ls hl => ?_)
  refine lv_goto (tgt := 9) hx hb dX2_finish_25 (by decide) ?_
  refine lv_iload_n hx hb dX2_finish_9 rfl (lv_at hl 0 rfl) ?_
  refine lv_bipush (v := 6) hx hb dX2_finish_10 (by decide) ?_
  refine lv_icmp_ge (tgt := 28) hx hb dX2_finish_12 (by decide) (fun h_ => absurd h_ (by decide +kernel)) (fun _ => ?_)
  refine lv_aload_n hx hb dX2_finish_15 rfl (lv_at hl 1 rfl) ?_
  refine g_get F hK hP 0 rfl clX2 6 (by decide) flX2_44 rfl dX2_finish_16 ?_
  refine lv_iload_n hx hb dX2_finish_19 rfl (lv_at hl 0 rfl) ?_
  refine lv_iconst (v := (-1)) hx hb dX2_finish_20 (by decide) ?_
  refine g_iast F hK hP hD hS 3 rfl (vin (by decide +kernel)) dX2_finish_21 (fun f_ => [(ho, .inr (2, [.ref fl, .ref pe, .ref ru, .int 0, .ref ho_4, .ref ho_5, .ref ho_6, .int 0, .ref ho_8, .ref ho_9, .ref ho_10, .ref ho_11, .ref ho_12, .int 50])), (fl, .inr (1, [.int 0, .int 0, .int 0, .ref fl_3, .ref fl_4, .ref fl_5, .ref fl_6, .ref fl_7])), (ru, .inr (7, [.int 0, .int 0, .ref ru_2, .ref ru_3, .ref ru_4, .ref ru_5, .ref ru_6, .ref ru_7])), (ho_6, .inl (G.2.1, 6, .inl f_)), (pe, .inr (3, [.int 0, .ref pe_1, .ref pe_2, .ref pe_3, .ref pe_4, .ref pe_5, .ref pe_6, .ref pe_7, .ref pe_8, .ref pe_9, .ref pe_10]))]) (fun _ => rfl) (fun f8 H locs ef8 (hP : va_P G.1 vwCl [(ho, .inr (2, [.ref fl, .ref pe, .ref ru, .int 0, .ref ho_4, .ref ho_5, .ref ho_6, .int 0, .ref ho_8, .ref ho_9, .ref ho_10, .ref ho_11, .ref ho_12, .int 50])), (fl, .inr (1, [.int 0, .int 0, .int 0, .ref fl_3, .ref fl_4, .ref fl_5, .ref fl_6, .ref fl_7])), (ru, .inr (7, [.int 0, .int 0, .ref ru_2, .ref ru_3, .ref ru_4, .ref ru_5, .ref ru_6, .ref ru_7])), (ho_6, .inl (G.2.1, 6, .inl f8)), (pe, .inr (3, [.int 0, .ref pe_1, .ref pe_2, .ref pe_3, .ref pe_4, .ref pe_5, .ref pe_6, .ref pe_7, .ref pe_8, .ref pe_9, .ref pe_10]))] H) (hD : va_D A [(ho, .inr (2, [.ref fl, .ref pe, .ref ru, .int 0, .ref ho_4, .ref ho_5, .ref ho_6, .int 0, .ref ho_8, .ref ho_9, .ref ho_10, .ref ho_11, .ref ho_12, .int 50])), (fl, .inr (1, [.int 0, .int 0, .int 0, .ref fl_3, .ref fl_4, .ref fl_5, .ref fl_6, .ref fl_7])), (ru, .inr (7, [.int 0, .int 0, .ref ru_2, .ref ru_3, .ref ru_4, .ref ru_5, .ref ru_6, .ref ru_7])), (ho_6, .inl (G.2.1, 6, .inl f8)), (pe, .inr (3, [.int 0, .ref pe_1, .ref pe_2, .ref pe_3, .ref pe_4, .ref pe_5, .ref pe_6, .ref pe_7, .ref pe_8, .ref pe_9, .ref pe_10]))]) hS => ?_)
  refine lv_iinc (v := 6) (lv' := [(1, .int 6), (0, .ref ho)]) hx hb dX2_finish_22 hl (k := 0) rfl (by decide +kernel) (by decide) rfl (fun ls hl => ?_)
  refine lv_goto (tgt := 9) hx hb dX2_finish_25 (by decide) ?_
  refine lv_iload_n hx hb dX2_finish_9 rfl (lv_at hl 0 rfl) ?_
  refine lv_bipush (v := 6) hx hb dX2_finish_10 (by decide) ?_
  refine lv_icmp_ge (tgt := 28) hx hb dX2_finish_12 (by decide) (fun _ => ?_) (fun h_ => absurd (by decide +kernel) h_)
  refine lv_iconst (v := 0) hx hb dX2_finish_28 (by decide) ?_
  refine lv_istore_n (lv' := [(1, .int 0), (0, .ref ho)]) hx hb dX2_finish_29 rfl hl (by decide) rfl (fun ls hl => ?_)
  refine lv_iload_n hx hb dX2_finish_30 rfl (lv_at hl 0 rfl) ?_
  refine lv_aload_n hx hb dX2_finish_31 rfl (lv_at hl 1 rfl) ?_
  refine g_get F hK hP 0 rfl clX2 1 (by decide) flX2_21 rfl dX2_finish_32 ?_
  refine g_get F hK hP 4 rfl clX3 0 (by decide) flX2_71 rfl dX2_finish_35 ?_
  refine lv_icmp_ge (tgt := 62) hx hb dX2_finish_38 (by decide) (fun _ => ?_) (fun h_ => absurd (by decide +kernel) h_)
  exact r_v F hr hlk hP hD hS () [0, 1, 4, 2] rfl rfl trivial dX2_finish_62 (Nat.le_of_ble_eq_true rfl) (Nat.le_of_ble_eq_true rfl)
set_option maxHeartbeats 4000000 in
set_option maxRecDepth 100000 in
theorem k_X4_begin (l : Launch) (G : Gx) (pl : Nat) (h2 : Nat) (ho : Nat) (pl_1 : Nat) (pl_5 : Nat) (f : Nat → Int32)  : CtV (S := Unit) l yX4_begin cX4_begin 2 none (rmD 5 0 0) G [.ref pl, .ref h2] [(pl, .inr (4, [.ref ho, .ref pl_1, .int 0, .int (-1), .int (-1), .ref pl_5])), (pl_1, .inl (G.2.1, 12, .inl (fun _ => 0))), (pl_5, .inl (G.2.1, 780, .inl f))] (fun _ => True) (fun _ => []) := by
  refine ctV_of (own := RX4) (by decide +kernel) rfl (Nat.le_of_ble_eq_true rfl) ?_
  intro p e s m below meth c A ls F hr hlk hnm hK hP hD hA hS hl
  have hx := F.1
  have hb := F.2.1
  have hown := F.2.2.2.1
  have hl : lv_has ls 2 [(0, .ref pl), (1, .ref h2)] := hl
  refine lv_aload_n hx hb dX4_begin_0 rfl (lv_at hl 0 rfl) ?_
  refine lv_aload_n hx hb dX4_begin_1 rfl (lv_at hl 1 rfl) ?_
  refine g_put (w' := [(pl, .inr (4, [.ref h2, .ref pl_1, .int 0, .int (-1), .int (-1), .ref pl_5])), (pl_1, .inl (G.2.1, 12, .inl (fun _ => 0))), (pl_5, .inl (G.2.1, 780, .inl f))]) F hK hP hD hS 0 rfl clX4 0 (by decide) flX4_28 rfl rfl rfl (Nat.le_of_ble_eq_true rfl) dX4_begin_2 rfl (fun H locs hP hD hS => ?_)
  refine lv_aload_n hx hb dX4_begin_5 rfl (lv_at hl 0 rfl) ?_
  refine g_get F hK hP 0 rfl clX4 1 (by decide) flX4_9 rfl dX4_begin_6 ?_
  refine lv_iconst (v := 0) hx hb dX4_begin_9 (by decide) ?_
  refine csv (wr := [(pl, .inr (4, [.ref h2, .ref pl_1, .int 0, .int (-1), .int (-1), .ref pl_5])), (pl_5, .inl (G.2.1, 780, .inl f))]) (As := [.ref pl_1, .int 0]) (rest := []) (k1 := 0) (s1 := 0) F hK hP hD hS hA (k_J7_fill_53178 l G 12 pl_1 0 (fun _ => 0) (by decide)) kmS_J7_fill_53178 mlX4_33 ⟨(Nat.le_of_ble_eq_true rfl), (Nat.le_of_ble_eq_true rfl)⟩ [1] [0, 2] rfl rfl rfl rfl (by decide) hl.1 rfl (Nat.le_of_ble_eq_true rfl) dX4_begin_10 ⟨(Nat.le_of_ble_eq_true rfl), (Nat.le_of_ble_eq_true rfl)⟩ rfl rfl (fun u1 H locs hwr2 (hP : va_P G.1 vwCl [(pl, .inr (4, [.ref h2, .ref pl_1, .int 0, .int (-1), .int (-1), .ref pl_5])), (pl_5, .inl (G.2.1, 780, .inl f)), (pl_1, .inl (G.2.1, 12, .inl u1))] H) (hD : va_D A [(pl, .inr (4, [.ref h2, .ref pl_1, .int 0, .int (-1), .int (-1), .ref pl_5])), (pl_5, .inl (G.2.1, 780, .inl f)), (pl_1, .inl (G.2.1, 12, .inl u1))]) hS => ?_)
  refine lv_aload_n hx hb dX4_begin_13 rfl (lv_at hl 0 rfl) ?_
  refine g_get F hK hP 0 rfl clX4 5 (by decide) flX4_25 rfl dX4_begin_14 ?_
  refine lv_ldc hx hb hown (F.2.2.2.2 _ cnX4_32) dX4_begin_17 ?_
  refine csv (wr := [(pl, .inr (4, [.ref h2, .ref pl_1, .int 0, .int (-1), .int (-1), .ref pl_5])), (pl_1, .inl (G.2.1, 12, .inl u1))]) (As := [.ref pl_5, .int (-2000000)]) (rest := []) (k1 := 0) (s1 := 0) F hK hP hD hS hA (k_J7_fill_53178 l G 780 pl_5 (-2000000) f (by decide)) kmS_J7_fill_53178 mlX4_33 ⟨(Nat.le_of_ble_eq_true rfl), (Nat.le_of_ble_eq_true rfl)⟩ [1] [0, 2] rfl rfl rfl rfl (by decide) hl.1 rfl (Nat.le_of_ble_eq_true rfl) dX4_begin_19 ⟨(Nat.le_of_ble_eq_true rfl), (Nat.le_of_ble_eq_true rfl)⟩ rfl rfl (fun u3 H locs hwr4 (hP : va_P G.1 vwCl [(pl, .inr (4, [.ref h2, .ref pl_1, .int 0, .int (-1), .int (-1), .ref pl_5])), (pl_1, .inl (G.2.1, 12, .inl u1)), (pl_5, .inl (G.2.1, 780, .inl u3))] H) (hD : va_D A [(pl, .inr (4, [.ref h2, .ref pl_1, .int 0, .int (-1), .int (-1), .ref pl_5])), (pl_1, .inl (G.2.1, 12, .inl u1)), (pl_5, .inl (G.2.1, 780, .inl u3))]) hS => ?_)
  exact r_v F hr hlk hP hD hS () [] rfl rfl trivial dX4_begin_22 (Nat.le_of_ble_eq_true rfl) (Nat.le_of_ble_eq_true rfl)
set_option maxHeartbeats 4000000 in
set_option maxRecDepth 100000 in
theorem k_X5_isFailed (l : Launch) (G : Gx) (rd : Nat) (rd_0 : Nat) (rd_9 : Nat)  : CtI (S := Unit) l yX5_isFailed cX5_isFailed 1 (some .boolean) (rmD 1 0 0) G [.ref rd] [(rd, .inr (5, [.ref rd_0, .int 0, .int 0, .int 0, .int 0, .int 0, .int (-1), .int 0, .int (-1), .ref rd_9]))] (fun r _ => r = 0) (fun _ => [(rd, .inr (5, [.ref rd_0, .int 0, .int 0, .int 0, .int 0, .int 0, .int (-1), .int 0, .int (-1), .ref rd_9]))]) := by
  refine ctI_of (own := RX5) (by decide +kernel) rfl (Nat.le_of_ble_eq_true rfl) ?_
  intro p e s m below meth c A ls F hr hlk hnm hK hP hD hA hS hl
  have hx := F.1
  have hb := F.2.1
  have hown := F.2.2.2.1
  have hl : lv_has ls 1 [(0, .ref rd)] := hl
  refine lv_aload_n hx hb dX5_isFailed_0 rfl (lv_at hl 0 rfl) ?_
  refine g_get F hK hP 0 rfl clX5 7 (by decide) flX5_30 rfl dX5_isFailed_1 ?_
  refine lv_if_eq (tgt := 11) hx hb dX5_isFailed_4 (by decide) (fun _ => ?_) (fun h_ => absurd (by decide +kernel) h_)
  refine lv_iconst (v := 0) hx hb dX5_isFailed_11 (by decide) ?_
  exact r_z F hr hlk hP hD hS () [0] rfl rfl rfl dX5_isFailed_12 (Nat.le_of_ble_eq_true rfl) (Nat.le_of_ble_eq_true rfl) (by decide)
set_option maxHeartbeats 4000000 in
set_option maxRecDepth 100000 in
theorem k_X5_isOver (l : Launch) (G : Gx) (rd : Nat) (rd_0 : Nat) (rd_9 : Nat)  : CtI (S := Unit) l yX5_isOver cX5_isOver 1 (some .boolean) (rmD 1 0 0) G [.ref rd] [(rd, .inr (5, [.ref rd_0, .int 0, .int 0, .int 0, .int 0, .int 0, .int (-1), .int 0, .int (-1), .ref rd_9]))] (fun r _ => r = 1) (fun _ => [(rd, .inr (5, [.ref rd_0, .int 0, .int 0, .int 0, .int 0, .int 0, .int (-1), .int 0, .int (-1), .ref rd_9]))]) := by
  refine ctI_of (own := RX5) (by decide +kernel) rfl (Nat.le_of_ble_eq_true rfl) ?_
  intro p e s m below meth c A ls F hr hlk hnm hK hP hD hA hS hl
  have hx := F.1
  have hb := F.2.1
  have hown := F.2.2.2.1
  have hl : lv_has ls 1 [(0, .ref rd)] := hl
  refine lv_aload_n hx hb dX5_isOver_0 rfl (lv_at hl 0 rfl) ?_
  refine g_get F hK hP 0 rfl clX5 4 (by decide) flX5_21 rfl dX5_isOver_1 ?_
  refine lv_if_ne (tgt := 11) hx hb dX5_isOver_4 (by decide) (fun h_ => absurd (by decide +kernel) h_) (fun _ => ?_)
  refine lv_iconst (v := 1) hx hb dX5_isOver_7 (by decide) ?_
  refine lv_goto (tgt := 12) hx hb dX5_isOver_8 (by decide) ?_
  exact r_z F hr hlk hP hD hS () [0] rfl rfl rfl dX5_isOver_12 (Nat.le_of_ble_eq_true rfl) (Nat.le_of_ble_eq_true rfl) (by decide)
set_option maxHeartbeats 4000000 in
set_option maxRecDepth 100000 in
theorem k_X5_take (l : Launch) (G : Gx) (rd : Nat) (rd_0 : Nat) (rd_9 : Nat)  : CtV (S := Unit) l yX5_take cX5_take 4 none (rmD 2 0 0) G [.ref rd] [(rd, .inr (5, [.ref rd_0, .int 0, .int 0, .int 0, .int 0, .int 0, .int (-1), .int 0, .int (-1), .ref rd_9]))] (fun _ => True) (fun _ => [(rd, .inr (5, [.ref rd_0, .int 0, .int 0, .int 0, .int 0, .int 0, .int (-1), .int 0, .int (-1), .ref rd_9]))]) := by
  refine ctV_of (own := RX5) (by decide +kernel) rfl (Nat.le_of_ble_eq_true rfl) ?_
  intro p e s m below meth c A ls F hr hlk hnm hK hP hD hA hS hl
  have hx := F.1
  have hb := F.2.1
  have hown := F.2.2.2.1
  have hl : lv_has ls 4 [(0, .ref rd)] := hl
  refine lv_aload_n hx hb dX5_take_0 rfl (lv_at hl 0 rfl) ?_
  refine cvi (wr := []) (As := []) (rest := []) (b := rd) (k1 := 0) (s1 := 0) F hK hP hD hS hA (k_X5_isFailed l G rd rd_0 rd_9) kmV_X5_isFailed mlX5_85 clX5 rfl 0 rfl ⟨(Nat.le_of_ble_eq_true rfl), (Nat.le_of_ble_eq_true rfl)⟩ [0] [] rfl rfl rfl rfl (by decide) hl.1 rfl (Nat.le_of_ble_eq_true rfl) dX5_take_1 ⟨(Nat.le_of_ble_eq_true rfl), (Nat.le_of_ble_eq_true rfl)⟩ rfl rfl (fun r2 u1 H locs hwr2 (hP : va_P G.1 vwCl [(rd, .inr (5, [.ref rd_0, .int 0, .int 0, .int 0, .int 0, .int 0, .int (-1), .int 0, .int (-1), .ref rd_9]))] H) (hD : va_D A [(rd, .inr (5, [.ref rd_0, .int 0, .int 0, .int 0, .int 0, .int 0, .int (-1), .int 0, .int (-1), .ref rd_9]))]) hS => ?_)
  subst hwr2
  refine lv_if_eq (tgt := 8) hx hb dX5_take_4 (by decide) (fun _ => ?_) (fun h_ => absurd (by decide +kernel) h_)
  refine lv_aload_n hx hb dX5_take_8 rfl (lv_at hl 0 rfl) ?_
  refine g_get F hK hP 0 rfl clX5 4 (by decide) flX5_21 rfl dX5_take_9 ?_
  refine lv_iconst (v := 1) hx hb dX5_take_12 (by decide) ?_
  refine lv_icmp_eq (tgt := 24) hx hb dX5_take_13 (by decide) (fun h_ => absurd h_ (by decide +kernel)) (fun _ => ?_)
  refine lv_aload_n hx hb dX5_take_16 rfl (lv_at hl 0 rfl) ?_
  refine g_get F hK hP 0 rfl clX5 4 (by decide) flX5_21 rfl dX5_take_17 ?_
  refine lv_iconst (v := 2) hx hb dX5_take_20 (by decide) ?_
  refine lv_icmp_ne (tgt := 28) hx hb dX5_take_21 (by decide) (fun _ => ?_) (fun h_ => absurd h_ (by decide +kernel))
  refine lv_iconst (v := 0) hx hb dX5_take_28 (by decide) ?_
  refine lv_istore_n (lv' := [(1, .int 0), (0, .ref rd)]) hx hb dX5_take_29 rfl hl (by decide) rfl (fun ls hl => ?_)
  refine lv_aload_n hx hb dX5_take_30 rfl (lv_at hl 1 rfl) ?_
  refine g_get F hK hP 0 rfl clX5 2 (by decide) flX5_15 rfl dX5_take_31 ?_
  refine lv_istore_n (lv' := [(2, .int 0), (1, .int 0), (0, .ref rd)]) hx hb dX5_take_34 rfl hl (by decide) rfl (fun ls hl => ?_)
  refine lv_aload_n hx hb dX5_take_35 rfl (lv_at hl 2 rfl) ?_
  refine g_get F hK hP 0 rfl clX5 2 (by decide) flX5_15 rfl dX5_take_36 ?_
  refine lv_aload_n hx hb dX5_take_39 rfl (lv_at hl 2 rfl) ?_
  refine g_get F hK hP 0 rfl clX5 1 (by decide) flX5_9 rfl dX5_take_40 ?_
  refine lv_icmp_ge (tgt := 74) hx hb dX5_take_43 (by decide) (fun _ => ?_) (fun h_ => absurd (by decide +kernel) h_)
  refine lv_aload_n hx hb dX5_take_74 rfl (lv_at hl 2 rfl) ?_
  refine lv_aload_n hx hb dX5_take_75 rfl (lv_at hl 2 rfl) ?_
  refine g_get F hK hP 0 rfl clX5 2 (by decide) flX5_15 rfl dX5_take_76 ?_
  refine g_put (w' := [(rd, .inr (5, [.ref rd_0, .int 0, .int 0, .int 0, .int 0, .int 0, .int (-1), .int 0, .int (-1), .ref rd_9]))]) F hK hP hD hS 0 rfl clX5 3 (by decide) flX5_18 rfl rfl rfl (Nat.le_of_ble_eq_true rfl) dX5_take_79 rfl (fun H locs hP hD hS => ?_)
  refine lv_aload_n hx hb dX5_take_82 rfl (lv_at hl 2 rfl) ?_
  refine lv_iconst (v := 0) hx hb dX5_take_83 (by decide) ?_
  refine g_put (w' := [(rd, .inr (5, [.ref rd_0, .int 0, .int 0, .int 0, .int 0, .int 0, .int (-1), .int 0, .int (-1), .ref rd_9]))]) F hK hP hD hS 0 rfl clX5 4 (by decide) flX5_21 rfl rfl rfl (Nat.le_of_ble_eq_true rfl) dX5_take_84 rfl (fun H locs hP hD hS => ?_)
  refine lv_aload_n hx hb dX5_take_87 rfl (lv_at hl 2 rfl) ?_
  refine lv_iconst (v := (-1)) hx hb dX5_take_88 (by decide) ?_
  refine g_put (w' := [(rd, .inr (5, [.ref rd_0, .int 0, .int 0, .int 0, .int 0, .int 0, .int (-1), .int 0, .int (-1), .ref rd_9]))]) F hK hP hD hS 0 rfl clX5 6 (by decide) flX5_27 rfl rfl rfl (Nat.le_of_ble_eq_true rfl) dX5_take_89 rfl (fun H locs hP hD hS => ?_)
  refine lv_aload_n hx hb dX5_take_92 rfl (lv_at hl 2 rfl) ?_
  refine g_get F hK hP 0 rfl clX5 2 (by decide) flX5_15 rfl dX5_take_93 ?_
  refine lv_aload_n hx hb dX5_take_96 rfl (lv_at hl 2 rfl) ?_
  refine g_get F hK hP 0 rfl clX5 1 (by decide) flX5_9 rfl dX5_take_97 ?_
  refine lv_icmp_lt (tgt := 104) hx hb dX5_take_100 (by decide) (fun h_ => absurd h_ (by decide +kernel)) (fun _ => ?_)
  exact r_v F hr hlk hP hD hS () [0] rfl rfl trivial dX5_take_103 (Nat.le_of_ble_eq_true rfl) (Nat.le_of_ble_eq_true rfl)
set_option maxHeartbeats 4000000 in
set_option maxRecDepth 100000 in
theorem k_X5_begin (l : Launch) (G : Gx) (rd : Nat) (rd_0 : Nat) (rd_9 : Nat)  : CtV (S := Unit) l yX5_begin cX5_begin 2 none (rmD 3 0 0) G [.ref rd, .int 0] [(rd, .inr (5, [.ref rd_0, .int 0, .int 0, .int 0, .int 0, .int 0, .int (-1), .int 0, .int (-1), .ref rd_9])), (rd_0, .inl (G.2.1, 1800, .inl (fun _ => 0)))] (fun _ => True) (fun _ => [(rd, .inr (5, [.ref rd_0, .int 0, .int 0, .int 0, .int 0, .int 0, .int (-1), .int 0, .int (-1), .ref rd_9]))]) := by
  refine ctV_of (own := RX5) (by decide +kernel) rfl (Nat.le_of_ble_eq_true rfl) ?_
  intro p e s m below meth c A ls F hr hlk hnm hK hP hD hA hS hl
  have hx := F.1
  have hb := F.2.1
  have hown := F.2.2.2.1
  have hl : lv_has ls 2 [(0, .ref rd), (1, .int 0)] := hl
  refine lv_aload_n hx hb dX5_begin_0 rfl (lv_at hl 0 rfl) ?_
  refine lv_iconst (v := 0) hx hb dX5_begin_1 (by decide) ?_
  refine lv_iload_n hx hb dX5_begin_2 rfl (lv_at hl 1 rfl) ?_
  refine lv_aload_n hx hb dX5_begin_3 rfl (lv_at hl 0 rfl) ?_
  refine g_get F hK hP 0 rfl clX5 0 (by decide) flX5_40 rfl dX5_begin_4 ?_
  refine g_ialen (v := 1800) F hK hP 1 rfl rfl dX5_begin_7 ?_
  refine va_mmin hx hb (F.2.2.1.trans hl.1.symm) hown (F.2.2.2.2 _ mmX5_min) (F.2.2.2.2 _ mms_min) (F.2.2.2.2 _ ini_J9) (F.2.2.2.2 _ mmc_min) (Nat.le_of_ble_eq_true rfl) (Nat.le_of_ble_eq_true rfl) (Nat.le_of_ble_eq_true rfl) (Nat.le_of_ble_eq_true rfl) dX5_begin_8 ?_
  refine cst_i (y := 0) (by decide +kernel) ?_
  refine va_mmax hx hb (F.2.2.1.trans hl.1.symm) hown (F.2.2.2.2 _ mmX5_max) (F.2.2.2.2 _ mms_max) (F.2.2.2.2 _ ini_J9) (F.2.2.2.2 _ mmc_max) (Nat.le_of_ble_eq_true rfl) (Nat.le_of_ble_eq_true rfl) (Nat.le_of_ble_eq_true rfl) (Nat.le_of_ble_eq_true rfl) dX5_begin_11 ?_
  refine cst_i (y := 0) (by decide +kernel) ?_
  refine g_put (w' := [(rd, .inr (5, [.ref rd_0, .int 0, .int 0, .int 0, .int 0, .int 0, .int (-1), .int 0, .int (-1), .ref rd_9])), (rd_0, .inl (G.2.1, 1800, .inl (fun _ => 0)))]) F hK hP hD hS 0 rfl clX5 1 (by decide) flX5_9 rfl rfl rfl (Nat.le_of_ble_eq_true rfl) dX5_begin_14 rfl (fun H locs hP hD hS => ?_)
  refine lv_aload_n hx hb dX5_begin_17 rfl (lv_at hl 0 rfl) ?_
  refine lv_iconst (v := 0) hx hb dX5_begin_18 (by decide) ?_
  refine g_put (w' := [(rd, .inr (5, [.ref rd_0, .int 0, .int 0, .int 0, .int 0, .int 0, .int (-1), .int 0, .int (-1), .ref rd_9])), (rd_0, .inl (G.2.1, 1800, .inl (fun _ => 0)))]) F hK hP hD hS 0 rfl clX5 2 (by decide) flX5_15 rfl rfl rfl (Nat.le_of_ble_eq_true rfl) dX5_begin_19 rfl (fun H locs hP hD hS => ?_)
  refine lv_aload_n hx hb dX5_begin_22 rfl (lv_at hl 0 rfl) ?_
  refine lv_iconst (v := 0) hx hb dX5_begin_23 (by decide) ?_
  refine g_put (w' := [(rd, .inr (5, [.ref rd_0, .int 0, .int 0, .int 0, .int 0, .int 0, .int (-1), .int 0, .int (-1), .ref rd_9])), (rd_0, .inl (G.2.1, 1800, .inl (fun _ => 0)))]) F hK hP hD hS 0 rfl clX5 4 (by decide) flX5_21 rfl rfl rfl (Nat.le_of_ble_eq_true rfl) dX5_begin_24 rfl (fun H locs hP hD hS => ?_)
  refine lv_aload_n hx hb dX5_begin_27 rfl (lv_at hl 0 rfl) ?_
  refine lv_iconst (v := 0) hx hb dX5_begin_28 (by decide) ?_
  refine g_put (w' := [(rd, .inr (5, [.ref rd_0, .int 0, .int 0, .int 0, .int 0, .int 0, .int (-1), .int 0, .int (-1), .ref rd_9])), (rd_0, .inl (G.2.1, 1800, .inl (fun _ => 0)))]) F hK hP hD hS 0 rfl clX5 7 (by decide) flX5_30 rfl rfl rfl (Nat.le_of_ble_eq_true rfl) dX5_begin_29 rfl (fun H locs hP hD hS => ?_)
  refine lv_aload_n hx hb dX5_begin_32 rfl (lv_at hl 0 rfl) ?_
  refine lv_iconst (v := (-1)) hx hb dX5_begin_33 (by decide) ?_
  refine g_put (w' := [(rd, .inr (5, [.ref rd_0, .int 0, .int 0, .int 0, .int 0, .int 0, .int (-1), .int 0, .int (-1), .ref rd_9])), (rd_0, .inl (G.2.1, 1800, .inl (fun _ => 0)))]) F hK hP hD hS 0 rfl clX5 8 (by decide) flX5_33 rfl rfl rfl (Nat.le_of_ble_eq_true rfl) dX5_begin_34 rfl (fun H locs hP hD hS => ?_)
  refine lv_aload_n hx hb dX5_begin_37 rfl (lv_at hl 0 rfl) ?_
  refine cvv (wr := [(rd_0, .inl (G.2.1, 1800, .inl (fun _ => 0)))]) (As := []) (rest := []) (b := rd) (k1 := 0) (s1 := 0) F hK hP hD hS hA (k_X5_take l G rd rd_0 rd_9) kmV_X5_take mlX5_70 clX5 rfl 0 rfl ⟨(Nat.le_of_ble_eq_true rfl), (Nat.le_of_ble_eq_true rfl)⟩ [0] [1] rfl rfl rfl rfl (by decide) hl.1 rfl (Nat.le_of_ble_eq_true rfl) dX5_begin_38 ⟨(Nat.le_of_ble_eq_true rfl), (Nat.le_of_ble_eq_true rfl)⟩ rfl rfl (fun u1 H locs hwr2 (hP : va_P G.1 vwCl [(rd_0, .inl (G.2.1, 1800, .inl (fun _ => 0))), (rd, .inr (5, [.ref rd_0, .int 0, .int 0, .int 0, .int 0, .int 0, .int (-1), .int 0, .int (-1), .ref rd_9]))] H) (hD : va_D A [(rd_0, .inl (G.2.1, 1800, .inl (fun _ => 0))), (rd, .inr (5, [.ref rd_0, .int 0, .int 0, .int 0, .int 0, .int 0, .int (-1), .int 0, .int (-1), .ref rd_9]))]) hS => ?_)
  exact r_v F hr hlk hP hD hS () [1] rfl rfl trivial dX5_begin_41 (Nat.le_of_ble_eq_true rfl) (Nat.le_of_ble_eq_true rfl)
set_option maxHeartbeats 4000000 in
set_option maxRecDepth 100000 in
theorem k_X10_begin (l : Launch) (G : Gx) (stm : Nat) (ho : Nat) (rd : Nat) (stm_1 : Nat) (rd_0 : Nat) (rd_9 : Nat) (fl : Nat) (pe : Nat) (ru : Nat) (ho_4 : Nat) (ho_5 : Nat) (ho_6 : Nat) (ho_8 : Nat) (ho_9 : Nat) (ho_10 : Nat) (ho_11 : Nat) (ho_12 : Nat) (fl_3 : Nat) (fl_4 : Nat) (fl_5 : Nat) (fl_6 : Nat) (fl_7 : Nat) (pe_1 : Nat) (pe_2 : Nat) (pe_3 : Nat) (pe_4 : Nat) (pe_5 : Nat) (pe_6 : Nat) (pe_7 : Nat) (pe_8 : Nat) (pe_9 : Nat) (pe_10 : Nat) (ru_2 : Nat) (ru_3 : Nat) (ru_4 : Nat) (ru_5 : Nat) (ru_6 : Nat) (ru_7 : Nat)  : CtV (S := Unit) l yX10_begin cX10_begin 3 none (rmD 4 0 0) G [.ref stm, .ref ho, .int 0] [(stm, .inr (10, [.ref rd, .ref stm_1, .ref ho, .int 0])), (rd, .inr (5, [.ref rd_0, .int 0, .int 0, .int 0, .int 0, .int 0, .int (-1), .int 0, .int (-1), .ref rd_9])), (ho, .inr (2, [.ref fl, .ref pe, .ref ru, .int 0, .ref ho_4, .ref ho_5, .ref ho_6, .int 0, .ref ho_8, .ref ho_9, .ref ho_10, .ref ho_11, .ref ho_12, .int 50])), (fl, .inr (1, [.int 0, .int 0, .int 0, .ref fl_3, .ref fl_4, .ref fl_5, .ref fl_6, .ref fl_7])), (pe, .inr (3, [.int 0, .ref pe_1, .ref pe_2, .ref pe_3, .ref pe_4, .ref pe_5, .ref pe_6, .ref pe_7, .ref pe_8, .ref pe_9, .ref pe_10])), (ru, .inr (7, [.int 0, .int 0, .ref ru_2, .ref ru_3, .ref ru_4, .ref ru_5, .ref ru_6, .ref ru_7])), (ho_11, .inl (G.2.1, 5, .inl (fun _ => 0))), (ho_12, .inl (G.2.1, 5, .inl (fun _ => 0))), (rd_0, .inl (G.2.1, 1800, .inl (fun _ => 0)))] (fun _ => True) (fun _ => [(stm, .inr (10, [.ref rd, .ref stm_1, .ref ho, .int 0])), (rd, .inr (5, [.ref rd_0, .int 0, .int 0, .int 0, .int 0, .int 0, .int (-1), .int 0, .int (-1), .ref rd_9])), (ho, .inr (2, [.ref fl, .ref pe, .ref ru, .int 0, .ref ho_4, .ref ho_5, .ref ho_6, .int 0, .ref ho_8, .ref ho_9, .ref ho_10, .ref ho_11, .ref ho_12, .int 50])), (fl, .inr (1, [.int 0, .int 0, .int 0, .ref fl_3, .ref fl_4, .ref fl_5, .ref fl_6, .ref fl_7])), (pe, .inr (3, [.int 0, .ref pe_1, .ref pe_2, .ref pe_3, .ref pe_4, .ref pe_5, .ref pe_6, .ref pe_7, .ref pe_8, .ref pe_9, .ref pe_10])), (ru, .inr (7, [.int 0, .int 0, .ref ru_2, .ref ru_3, .ref ru_4, .ref ru_5, .ref ru_6, .ref ru_7]))]) := by
  refine ctV_of (own := RX10) (by decide +kernel) rfl (Nat.le_of_ble_eq_true rfl) ?_
  intro p e s m below meth c A ls F hr hlk hnm hK hP hD hA hS hl
  have hx := F.1
  have hb := F.2.1
  have hown := F.2.2.2.1
  have hl : lv_has ls 3 [(0, .ref stm), (1, .ref ho), (2, .int 0)] := hl
  refine lv_aload_n hx hb dX10_begin_0 rfl (lv_at hl 0 rfl) ?_
  refine lv_aload_n hx hb dX10_begin_1 rfl (lv_at hl 1 rfl) ?_
  refine g_put (w' := [(stm, .inr (10, [.ref rd, .ref stm_1, .ref ho, .int 0])), (rd, .inr (5, [.ref rd_0, .int 0, .int 0, .int 0, .int 0, .int 0, .int (-1), .int 0, .int (-1), .ref rd_9])), (ho, .inr (2, [.ref fl, .ref pe, .ref ru, .int 0, .ref ho_4, .ref ho_5, .ref ho_6, .int 0, .ref ho_8, .ref ho_9, .ref ho_10, .ref ho_11, .ref ho_12, .int 50])), (fl, .inr (1, [.int 0, .int 0, .int 0, .ref fl_3, .ref fl_4, .ref fl_5, .ref fl_6, .ref fl_7])), (pe, .inr (3, [.int 0, .ref pe_1, .ref pe_2, .ref pe_3, .ref pe_4, .ref pe_5, .ref pe_6, .ref pe_7, .ref pe_8, .ref pe_9, .ref pe_10])), (ru, .inr (7, [.int 0, .int 0, .ref ru_2, .ref ru_3, .ref ru_4, .ref ru_5, .ref ru_6, .ref ru_7])), (ho_11, .inl (G.2.1, 5, .inl (fun _ => 0))), (ho_12, .inl (G.2.1, 5, .inl (fun _ => 0))), (rd_0, .inl (G.2.1, 1800, .inl (fun _ => 0)))]) F hK hP hD hS 0 rfl clX10 2 (by decide) flX10_19 rfl rfl rfl (Nat.le_of_ble_eq_true rfl) dX10_begin_2 rfl (fun H locs hP hD hS => ?_)
  refine lv_aload_n hx hb dX10_begin_5 rfl (lv_at hl 0 rfl) ?_
  refine g_get F hK hP 0 rfl clX10 2 (by decide) flX10_19 rfl dX10_begin_6 ?_
  refine cvv (wr := [(stm, .inr (10, [.ref rd, .ref stm_1, .ref ho, .int 0])), (rd, .inr (5, [.ref rd_0, .int 0, .int 0, .int 0, .int 0, .int 0, .int (-1), .int 0, .int (-1), .ref rd_9])), (rd_0, .inl (G.2.1, 1800, .inl (fun _ => 0)))]) (As := []) (rest := []) (b := ho) (k1 := 0) (s1 := 0) F hK hP hD hS hA (k_X2_clear l G ho fl pe ru ho_4 ho_5 ho_6 ho_8 ho_9 ho_10 ho_11 ho_12 fl_3 fl_4 fl_5 fl_6 fl_7 pe_1 pe_2 pe_3 pe_4 pe_5 pe_6 pe_7 pe_8 pe_9 pe_10 ru_2 ru_3 ru_4 ru_5 ru_6 ru_7) kmV_X2_clear mlX10_38 clX2 rfl 0 rfl ⟨(Nat.le_of_ble_eq_true rfl), (Nat.le_of_ble_eq_true rfl)⟩ [2, 3, 4, 5, 6, 7] [0, 1, 8] rfl rfl rfl rfl (by decide) hl.1 rfl (Nat.le_of_ble_eq_true rfl) dX10_begin_9 ⟨(Nat.le_of_ble_eq_true rfl), (Nat.le_of_ble_eq_true rfl)⟩ rfl rfl (fun u1 H locs hwr2 (hP : va_P G.1 vwCl [(stm, .inr (10, [.ref rd, .ref stm_1, .ref ho, .int 0])), (rd, .inr (5, [.ref rd_0, .int 0, .int 0, .int 0, .int 0, .int 0, .int (-1), .int 0, .int (-1), .ref rd_9])), (rd_0, .inl (G.2.1, 1800, .inl (fun _ => 0))), (ho, .inr (2, [.ref fl, .ref pe, .ref ru, .int 0, .ref ho_4, .ref ho_5, .ref ho_6, .int 0, .ref ho_8, .ref ho_9, .ref ho_10, .ref ho_11, .ref ho_12, .int 50])), (fl, .inr (1, [.int 0, .int 0, .int 0, .ref fl_3, .ref fl_4, .ref fl_5, .ref fl_6, .ref fl_7])), (pe, .inr (3, [.int 0, .ref pe_1, .ref pe_2, .ref pe_3, .ref pe_4, .ref pe_5, .ref pe_6, .ref pe_7, .ref pe_8, .ref pe_9, .ref pe_10])), (ru, .inr (7, [.int 0, .int 0, .ref ru_2, .ref ru_3, .ref ru_4, .ref ru_5, .ref ru_6, .ref ru_7]))] H) (hD : va_D A [(stm, .inr (10, [.ref rd, .ref stm_1, .ref ho, .int 0])), (rd, .inr (5, [.ref rd_0, .int 0, .int 0, .int 0, .int 0, .int 0, .int (-1), .int 0, .int (-1), .ref rd_9])), (rd_0, .inl (G.2.1, 1800, .inl (fun _ => 0))), (ho, .inr (2, [.ref fl, .ref pe, .ref ru, .int 0, .ref ho_4, .ref ho_5, .ref ho_6, .int 0, .ref ho_8, .ref ho_9, .ref ho_10, .ref ho_11, .ref ho_12, .int 50])), (fl, .inr (1, [.int 0, .int 0, .int 0, .ref fl_3, .ref fl_4, .ref fl_5, .ref fl_6, .ref fl_7])), (pe, .inr (3, [.int 0, .ref pe_1, .ref pe_2, .ref pe_3, .ref pe_4, .ref pe_5, .ref pe_6, .ref pe_7, .ref pe_8, .ref pe_9, .ref pe_10])), (ru, .inr (7, [.int 0, .int 0, .ref ru_2, .ref ru_3, .ref ru_4, .ref ru_5, .ref ru_6, .ref ru_7]))]) hS => ?_)
  refine lv_aload_n hx hb dX10_begin_12 rfl (lv_at hl 0 rfl) ?_
  refine lv_iconst (v := 0) hx hb dX10_begin_13 (by decide) ?_
  refine g_put (w' := [(stm, .inr (10, [.ref rd, .ref stm_1, .ref ho, .int 0])), (rd, .inr (5, [.ref rd_0, .int 0, .int 0, .int 0, .int 0, .int 0, .int (-1), .int 0, .int (-1), .ref rd_9])), (rd_0, .inl (G.2.1, 1800, .inl (fun _ => 0))), (ho, .inr (2, [.ref fl, .ref pe, .ref ru, .int 0, .ref ho_4, .ref ho_5, .ref ho_6, .int 0, .ref ho_8, .ref ho_9, .ref ho_10, .ref ho_11, .ref ho_12, .int 50])), (fl, .inr (1, [.int 0, .int 0, .int 0, .ref fl_3, .ref fl_4, .ref fl_5, .ref fl_6, .ref fl_7])), (pe, .inr (3, [.int 0, .ref pe_1, .ref pe_2, .ref pe_3, .ref pe_4, .ref pe_5, .ref pe_6, .ref pe_7, .ref pe_8, .ref pe_9, .ref pe_10])), (ru, .inr (7, [.int 0, .int 0, .ref ru_2, .ref ru_3, .ref ru_4, .ref ru_5, .ref ru_6, .ref ru_7]))]) F hK hP hD hS 0 rfl clX10 3 (by decide) flX10_9 rfl rfl rfl (Nat.le_of_ble_eq_true rfl) dX10_begin_14 rfl (fun H locs hP hD hS => ?_)
  refine lv_aload_n hx hb dX10_begin_17 rfl (lv_at hl 0 rfl) ?_
  refine g_get F hK hP 0 rfl clX10 0 (by decide) flX10_15 rfl dX10_begin_18 ?_
  refine lv_iload_n hx hb dX10_begin_21 rfl (lv_at hl 2 rfl) ?_
  refine cvv (wr := [(stm, .inr (10, [.ref rd, .ref stm_1, .ref ho, .int 0])), (ho, .inr (2, [.ref fl, .ref pe, .ref ru, .int 0, .ref ho_4, .ref ho_5, .ref ho_6, .int 0, .ref ho_8, .ref ho_9, .ref ho_10, .ref ho_11, .ref ho_12, .int 50])), (fl, .inr (1, [.int 0, .int 0, .int 0, .ref fl_3, .ref fl_4, .ref fl_5, .ref fl_6, .ref fl_7])), (pe, .inr (3, [.int 0, .ref pe_1, .ref pe_2, .ref pe_3, .ref pe_4, .ref pe_5, .ref pe_6, .ref pe_7, .ref pe_8, .ref pe_9, .ref pe_10])), (ru, .inr (7, [.int 0, .int 0, .ref ru_2, .ref ru_3, .ref ru_4, .ref ru_5, .ref ru_6, .ref ru_7]))]) (As := [.int 0]) (rest := []) (b := rd) (k1 := 0) (s1 := 0) F hK hP hD hS hA (k_X5_begin l G rd rd_0 rd_9) kmV_X5_begin mlX10_41 clX5 rfl 0 rfl ⟨(Nat.le_of_ble_eq_true rfl), (Nat.le_of_ble_eq_true rfl)⟩ [1, 2] [0, 3, 4, 5, 6] rfl rfl rfl rfl (by decide) hl.1 rfl (Nat.le_of_ble_eq_true rfl) dX10_begin_22 ⟨(Nat.le_of_ble_eq_true rfl), (Nat.le_of_ble_eq_true rfl)⟩ rfl rfl (fun u3 H locs hwr4 (hP : va_P G.1 vwCl [(stm, .inr (10, [.ref rd, .ref stm_1, .ref ho, .int 0])), (ho, .inr (2, [.ref fl, .ref pe, .ref ru, .int 0, .ref ho_4, .ref ho_5, .ref ho_6, .int 0, .ref ho_8, .ref ho_9, .ref ho_10, .ref ho_11, .ref ho_12, .int 50])), (fl, .inr (1, [.int 0, .int 0, .int 0, .ref fl_3, .ref fl_4, .ref fl_5, .ref fl_6, .ref fl_7])), (pe, .inr (3, [.int 0, .ref pe_1, .ref pe_2, .ref pe_3, .ref pe_4, .ref pe_5, .ref pe_6, .ref pe_7, .ref pe_8, .ref pe_9, .ref pe_10])), (ru, .inr (7, [.int 0, .int 0, .ref ru_2, .ref ru_3, .ref ru_4, .ref ru_5, .ref ru_6, .ref ru_7])), (rd, .inr (5, [.ref rd_0, .int 0, .int 0, .int 0, .int 0, .int 0, .int (-1), .int 0, .int (-1), .ref rd_9]))] H) (hD : va_D A [(stm, .inr (10, [.ref rd, .ref stm_1, .ref ho, .int 0])), (ho, .inr (2, [.ref fl, .ref pe, .ref ru, .int 0, .ref ho_4, .ref ho_5, .ref ho_6, .int 0, .ref ho_8, .ref ho_9, .ref ho_10, .ref ho_11, .ref ho_12, .int 50])), (fl, .inr (1, [.int 0, .int 0, .int 0, .ref fl_3, .ref fl_4, .ref fl_5, .ref fl_6, .ref fl_7])), (pe, .inr (3, [.int 0, .ref pe_1, .ref pe_2, .ref pe_3, .ref pe_4, .ref pe_5, .ref pe_6, .ref pe_7, .ref pe_8, .ref pe_9, .ref pe_10])), (ru, .inr (7, [.int 0, .int 0, .ref ru_2, .ref ru_3, .ref ru_4, .ref ru_5, .ref ru_6, .ref ru_7])), (rd, .inr (5, [.ref rd_0, .int 0, .int 0, .int 0, .int 0, .int 0, .int (-1), .int 0, .int (-1), .ref rd_9]))]) hS => ?_)
  exact r_v F hr hlk hP hD hS () [0, 5, 1, 2, 3, 4] rfl rfl trivial dX10_begin_25 (Nat.le_of_ble_eq_true rfl) (Nat.le_of_ble_eq_true rfl)
set_option maxHeartbeats 4000000 in
set_option maxRecDepth 100000 in
theorem k_X11_house (l : Launch) (G : Gx) (x : Nat) (x_0 : Nat) (sp : Nat) (stm : Nat) (pl : Nat) (sk : Nat) (se : Nat) (ch : Nat) (x_11 : Nat) (x_13 : Nat) (rd : Nat) (stm_1 : Nat) (rd_9 : Nat) (ho : Nat) (pl_1 : Nat) (pl_5 : Nat) (sfl : Nat) (spe : Nat) (sru : Nat) (sp_4 : Nat) (sp_5 : Nat) (sp_6 : Nat) (sp_8 : Nat) (sp_9 : Nat) (sp_10 : Nat) (sp_11 : Nat) (sp_12 : Nat) (sfl_3 : Nat) (sfl_4 : Nat) (sfl_5 : Nat) (sfl_6 : Nat) (sfl_7 : Nat) (spe_1 : Nat) (spe_2 : Nat) (spe_3 : Nat) (spe_4 : Nat) (spe_5 : Nat) (spe_6 : Nat) (spe_7 : Nat) (spe_8 : Nat) (spe_9 : Nat) (spe_10 : Nat) (sru_2 : Nat) (sru_3 : Nat) (sru_4 : Nat) (sru_5 : Nat) (sru_6 : Nat) (sru_7 : Nat) (f : Nat → Int32)  : CtI (S := Unit) l yX11_house cX11_house 2 (some .int) (rmD 6 0 0) G [.ref x] [(x, .inr (11, [.ref x_0, .int 0, .ref sp, .ref stm, .ref pl, .ref sk, .ref se, .ref ch, .int 0, .int (-1), .long 1, .ref x_11, .int 0, .ref x_13])), (stm, .inr (10, [.ref rd, .ref stm_1, .ref sp, .int 0])), (rd, .inr (5, [.ref x_0, .int 0, .int 0, .int 0, .int 0, .int 0, .int (-1), .int 0, .int (-1), .ref rd_9])), (pl, .inr (4, [.ref ho, .ref pl_1, .int 0, .int (-1), .int (-1), .ref pl_5])), (sp, .inr (2, [.ref sfl, .ref spe, .ref sru, .int 0, .ref sp_4, .ref sp_5, .ref sp_6, .int 0, .ref sp_8, .ref sp_9, .ref sp_10, .ref sp_11, .ref sp_12, .int 50])), (sfl, .inr (1, [.int 0, .int 0, .int 0, .ref sfl_3, .ref sfl_4, .ref sfl_5, .ref sfl_6, .ref sfl_7])), (spe, .inr (3, [.int 0, .ref spe_1, .ref spe_2, .ref spe_3, .ref spe_4, .ref spe_5, .ref spe_6, .ref spe_7, .ref spe_8, .ref spe_9, .ref spe_10])), (sru, .inr (7, [.int 0, .int 0, .ref sru_2, .ref sru_3, .ref sru_4, .ref sru_5, .ref sru_6, .ref sru_7])), (sp_11, .inl (G.2.1, 5, .inl (fun _ => 0))), (sp_12, .inl (G.2.1, 5, .inl (fun _ => 0))), (sp_6, .inl (G.2.1, 6, .inl (fun _ => 0))), (x_0, .inl (G.2.1, 1800, .inl (fun _ => 0))), (pl_1, .inl (G.2.1, 12, .inl (fun _ => 0))), (pl_5, .inl (G.2.1, 780, .inl f))] (fun r _ => r = 0) (fun _ => []) := by
  refine ctI_of (own := RX11) (by decide +kernel) rfl (Nat.le_of_ble_eq_true rfl) ?_
  intro p e s m below meth c A ls F hr hlk hnm hK hP hD hA hS hl
  have hx := F.1
  have hb := F.2.1
  have hown := F.2.2.2.1
  have hl : lv_has ls 2 [(0, .ref x)] := hl
  refine lv_aload_n hx hb dX11_house_0 rfl (lv_at hl 0 rfl) ?_
  refine g_get F hK hP 0 rfl clX11 3 (by decide) flX11_34 rfl dX11_house_1 ?_
  refine lv_aload_n hx hb dX11_house_4 rfl (lv_at hl 0 rfl) ?_
  refine g_get F hK hP 0 rfl clX11 2 (by decide) flX11_20 rfl dX11_house_5 ?_
  refine lv_aload_n hx hb dX11_house_8 rfl (lv_at hl 0 rfl) ?_
  refine g_get F hK hP 0 rfl clX11 1 (by decide) flX11_13 rfl dX11_house_9 ?_
  refine cvv (wr := [(x, .inr (11, [.ref x_0, .int 0, .ref sp, .ref stm, .ref pl, .ref sk, .ref se, .ref ch, .int 0, .int (-1), .long 1, .ref x_11, .int 0, .ref x_13])), (pl, .inr (4, [.ref ho, .ref pl_1, .int 0, .int (-1), .int (-1), .ref pl_5])), (sp_6, .inl (G.2.1, 6, .inl (fun _ => 0))), (pl_1, .inl (G.2.1, 12, .inl (fun _ => 0))), (pl_5, .inl (G.2.1, 780, .inl f))]) (As := [.ref sp, .int 0]) (rest := []) (b := stm) (k1 := 0) (s1 := 0) F hK hP hD hS hA (k_X10_begin l G stm sp rd stm_1 x_0 rd_9 sfl spe sru sp_4 sp_5 sp_6 sp_8 sp_9 sp_10 sp_11 sp_12 sfl_3 sfl_4 sfl_5 sfl_6 sfl_7 spe_1 spe_2 spe_3 spe_4 spe_5 spe_6 spe_7 spe_8 spe_9 spe_10 sru_2 sru_3 sru_4 sru_5 sru_6 sru_7) kmV_X10_begin mlX11_97 clX10 rfl 0 rfl ⟨(Nat.le_of_ble_eq_true rfl), (Nat.le_of_ble_eq_true rfl)⟩ [1, 2, 4, 5, 6, 7, 8, 9, 11] [0, 3, 10, 12, 13] rfl rfl rfl rfl (by decide) hl.1 rfl (Nat.le_of_ble_eq_true rfl) dX11_house_12 ⟨(Nat.le_of_ble_eq_true rfl), (Nat.le_of_ble_eq_true rfl)⟩ rfl rfl (fun u1 H locs hwr2 (hP : va_P G.1 vwCl [(x, .inr (11, [.ref x_0, .int 0, .ref sp, .ref stm, .ref pl, .ref sk, .ref se, .ref ch, .int 0, .int (-1), .long 1, .ref x_11, .int 0, .ref x_13])), (pl, .inr (4, [.ref ho, .ref pl_1, .int 0, .int (-1), .int (-1), .ref pl_5])), (sp_6, .inl (G.2.1, 6, .inl (fun _ => 0))), (pl_1, .inl (G.2.1, 12, .inl (fun _ => 0))), (pl_5, .inl (G.2.1, 780, .inl f)), (stm, .inr (10, [.ref rd, .ref stm_1, .ref sp, .int 0])), (rd, .inr (5, [.ref x_0, .int 0, .int 0, .int 0, .int 0, .int 0, .int (-1), .int 0, .int (-1), .ref rd_9])), (sp, .inr (2, [.ref sfl, .ref spe, .ref sru, .int 0, .ref sp_4, .ref sp_5, .ref sp_6, .int 0, .ref sp_8, .ref sp_9, .ref sp_10, .ref sp_11, .ref sp_12, .int 50])), (sfl, .inr (1, [.int 0, .int 0, .int 0, .ref sfl_3, .ref sfl_4, .ref sfl_5, .ref sfl_6, .ref sfl_7])), (spe, .inr (3, [.int 0, .ref spe_1, .ref spe_2, .ref spe_3, .ref spe_4, .ref spe_5, .ref spe_6, .ref spe_7, .ref spe_8, .ref spe_9, .ref spe_10])), (sru, .inr (7, [.int 0, .int 0, .ref sru_2, .ref sru_3, .ref sru_4, .ref sru_5, .ref sru_6, .ref sru_7]))] H) (hD : va_D A [(x, .inr (11, [.ref x_0, .int 0, .ref sp, .ref stm, .ref pl, .ref sk, .ref se, .ref ch, .int 0, .int (-1), .long 1, .ref x_11, .int 0, .ref x_13])), (pl, .inr (4, [.ref ho, .ref pl_1, .int 0, .int (-1), .int (-1), .ref pl_5])), (sp_6, .inl (G.2.1, 6, .inl (fun _ => 0))), (pl_1, .inl (G.2.1, 12, .inl (fun _ => 0))), (pl_5, .inl (G.2.1, 780, .inl f)), (stm, .inr (10, [.ref rd, .ref stm_1, .ref sp, .int 0])), (rd, .inr (5, [.ref x_0, .int 0, .int 0, .int 0, .int 0, .int 0, .int (-1), .int 0, .int (-1), .ref rd_9])), (sp, .inr (2, [.ref sfl, .ref spe, .ref sru, .int 0, .ref sp_4, .ref sp_5, .ref sp_6, .int 0, .ref sp_8, .ref sp_9, .ref sp_10, .ref sp_11, .ref sp_12, .int 50])), (sfl, .inr (1, [.int 0, .int 0, .int 0, .ref sfl_3, .ref sfl_4, .ref sfl_5, .ref sfl_6, .ref sfl_7])), (spe, .inr (3, [.int 0, .ref spe_1, .ref spe_2, .ref spe_3, .ref spe_4, .ref spe_5, .ref spe_6, .ref spe_7, .ref spe_8, .ref spe_9, .ref spe_10])), (sru, .inr (7, [.int 0, .int 0, .ref sru_2, .ref sru_3, .ref sru_4, .ref sru_5, .ref sru_6, .ref sru_7]))]) hS => ?_)
  refine lv_aload_n hx hb dX11_house_15 rfl (lv_at hl 0 rfl) ?_
  refine lv_iconst (v := 0) hx hb dX11_house_16 (by decide) ?_
  refine g_put (w' := [(x, .inr (11, [.ref x_0, .int 0, .ref sp, .ref stm, .ref pl, .ref sk, .ref se, .ref ch, .int 0, .int (-1), .long 1, .ref x_11, .int 0, .ref x_13])), (pl, .inr (4, [.ref ho, .ref pl_1, .int 0, .int (-1), .int (-1), .ref pl_5])), (sp_6, .inl (G.2.1, 6, .inl (fun _ => 0))), (pl_1, .inl (G.2.1, 12, .inl (fun _ => 0))), (pl_5, .inl (G.2.1, 780, .inl f)), (stm, .inr (10, [.ref rd, .ref stm_1, .ref sp, .int 0])), (rd, .inr (5, [.ref x_0, .int 0, .int 0, .int 0, .int 0, .int 0, .int (-1), .int 0, .int (-1), .ref rd_9])), (sp, .inr (2, [.ref sfl, .ref spe, .ref sru, .int 0, .ref sp_4, .ref sp_5, .ref sp_6, .int 0, .ref sp_8, .ref sp_9, .ref sp_10, .ref sp_11, .ref sp_12, .int 50])), (sfl, .inr (1, [.int 0, .int 0, .int 0, .ref sfl_3, .ref sfl_4, .ref sfl_5, .ref sfl_6, .ref sfl_7])), (spe, .inr (3, [.int 0, .ref spe_1, .ref spe_2, .ref spe_3, .ref spe_4, .ref spe_5, .ref spe_6, .ref spe_7, .ref spe_8, .ref spe_9, .ref spe_10])), (sru, .inr (7, [.int 0, .int 0, .ref sru_2, .ref sru_3, .ref sru_4, .ref sru_5, .ref sru_6, .ref sru_7]))]) F hK hP hD hS 0 rfl clX11 1 (by decide) flX11_13 rfl rfl rfl (Nat.le_of_ble_eq_true rfl) dX11_house_17 rfl (fun H locs hP hD hS => ?_)
  refine lv_iconst (v := 0) hx hb dX11_house_20 (by decide) ?_
  refine lv_istore_n (lv' := [(1, .int 0), (0, .ref x)]) hx hb dX11_house_21 rfl hl (by decide) rfl (fun ls hl => ?_)
  refine lv_iload_n hx hb dX11_house_22 rfl (lv_at hl 0 rfl) ?_
  refine lv_sipush (v := 1800) hx hb dX11_house_23 (by decide) ?_
  refine lv_icmp_ge (tgt := 55) hx hb dX11_house_26 (by decide) (fun h_ => absurd h_ (by decide +kernel)) (fun _ => ?_)
  refine lv_aload_n hx hb dX11_house_29 rfl (lv_at hl 1 rfl) ?_
  refine g_get F hK hP 0 rfl clX11 3 (by decide) flX11_34 rfl dX11_house_30 ?_
  refine g_get F hK hP 5 rfl clX10 0 (by decide) flX11_101 rfl dX11_house_33 ?_
  refine cvi (wr := [(x, .inr (11, [.ref x_0, .int 0, .ref sp, .ref stm, .ref pl, .ref sk, .ref se, .ref ch, .int 0, .int (-1), .long 1, .ref x_11, .int 0, .ref x_13])), (pl, .inr (4, [.ref ho, .ref pl_1, .int 0, .int (-1), .int (-1), .ref pl_5])), (sp_6, .inl (G.2.1, 6, .inl (fun _ => 0))), (pl_1, .inl (G.2.1, 12, .inl (fun _ => 0))), (pl_5, .inl (G.2.1, 780, .inl f)), (stm, .inr (10, [.ref rd, .ref stm_1, .ref sp, .int 0])), (sp, .inr (2, [.ref sfl, .ref spe, .ref sru, .int 0, .ref sp_4, .ref sp_5, .ref sp_6, .int 0, .ref sp_8, .ref sp_9, .ref sp_10, .ref sp_11, .ref sp_12, .int 50])), (sfl, .inr (1, [.int 0, .int 0, .int 0, .ref sfl_3, .ref sfl_4, .ref sfl_5, .ref sfl_6, .ref sfl_7])), (spe, .inr (3, [.int 0, .ref spe_1, .ref spe_2, .ref spe_3, .ref spe_4, .ref spe_5, .ref spe_6, .ref spe_7, .ref spe_8, .ref spe_9, .ref spe_10])), (sru, .inr (7, [.int 0, .int 0, .ref sru_2, .ref sru_3, .ref sru_4, .ref sru_5, .ref sru_6, .ref sru_7]))]) (As := []) (rest := []) (b := rd) (k1 := 0) (s1 := 0) F hK hP hD hS hA (k_X5_isOver l G rd x_0 rd_9) kmV_X5_isOver mlX11_105 clX5 rfl 0 rfl ⟨(Nat.le_of_ble_eq_true rfl), (Nat.le_of_ble_eq_true rfl)⟩ [6] [0, 1, 2, 3, 4, 5, 7, 8, 9, 10] rfl rfl rfl rfl (by decide) hl.1 rfl (Nat.le_of_ble_eq_true rfl) dX11_house_36 ⟨(Nat.le_of_ble_eq_true rfl), (Nat.le_of_ble_eq_true rfl)⟩ rfl rfl (fun r4 u3 H locs hwr4 (hP : va_P G.1 vwCl [(x, .inr (11, [.ref x_0, .int 0, .ref sp, .ref stm, .ref pl, .ref sk, .ref se, .ref ch, .int 0, .int (-1), .long 1, .ref x_11, .int 0, .ref x_13])), (pl, .inr (4, [.ref ho, .ref pl_1, .int 0, .int (-1), .int (-1), .ref pl_5])), (sp_6, .inl (G.2.1, 6, .inl (fun _ => 0))), (pl_1, .inl (G.2.1, 12, .inl (fun _ => 0))), (pl_5, .inl (G.2.1, 780, .inl f)), (stm, .inr (10, [.ref rd, .ref stm_1, .ref sp, .int 0])), (sp, .inr (2, [.ref sfl, .ref spe, .ref sru, .int 0, .ref sp_4, .ref sp_5, .ref sp_6, .int 0, .ref sp_8, .ref sp_9, .ref sp_10, .ref sp_11, .ref sp_12, .int 50])), (sfl, .inr (1, [.int 0, .int 0, .int 0, .ref sfl_3, .ref sfl_4, .ref sfl_5, .ref sfl_6, .ref sfl_7])), (spe, .inr (3, [.int 0, .ref spe_1, .ref spe_2, .ref spe_3, .ref spe_4, .ref spe_5, .ref spe_6, .ref spe_7, .ref spe_8, .ref spe_9, .ref spe_10])), (sru, .inr (7, [.int 0, .int 0, .ref sru_2, .ref sru_3, .ref sru_4, .ref sru_5, .ref sru_6, .ref sru_7])), (rd, .inr (5, [.ref x_0, .int 0, .int 0, .int 0, .int 0, .int 0, .int (-1), .int 0, .int (-1), .ref rd_9]))] H) (hD : va_D A [(x, .inr (11, [.ref x_0, .int 0, .ref sp, .ref stm, .ref pl, .ref sk, .ref se, .ref ch, .int 0, .int (-1), .long 1, .ref x_11, .int 0, .ref x_13])), (pl, .inr (4, [.ref ho, .ref pl_1, .int 0, .int (-1), .int (-1), .ref pl_5])), (sp_6, .inl (G.2.1, 6, .inl (fun _ => 0))), (pl_1, .inl (G.2.1, 12, .inl (fun _ => 0))), (pl_5, .inl (G.2.1, 780, .inl f)), (stm, .inr (10, [.ref rd, .ref stm_1, .ref sp, .int 0])), (sp, .inr (2, [.ref sfl, .ref spe, .ref sru, .int 0, .ref sp_4, .ref sp_5, .ref sp_6, .int 0, .ref sp_8, .ref sp_9, .ref sp_10, .ref sp_11, .ref sp_12, .int 50])), (sfl, .inr (1, [.int 0, .int 0, .int 0, .ref sfl_3, .ref sfl_4, .ref sfl_5, .ref sfl_6, .ref sfl_7])), (spe, .inr (3, [.int 0, .ref spe_1, .ref spe_2, .ref spe_3, .ref spe_4, .ref spe_5, .ref spe_6, .ref spe_7, .ref spe_8, .ref spe_9, .ref spe_10])), (sru, .inr (7, [.int 0, .int 0, .ref sru_2, .ref sru_3, .ref sru_4, .ref sru_5, .ref sru_6, .ref sru_7])), (rd, .inr (5, [.ref x_0, .int 0, .int 0, .int 0, .int 0, .int 0, .int (-1), .int 0, .int (-1), .ref rd_9]))]) hS => ?_)
  subst hwr4
  refine lv_if_ne (tgt := 55) hx hb dX11_house_39 (by decide) (fun _ => ?_) (fun h_ => absurd h_ (by decide +kernel))
  refine lv_aload_n hx hb dX11_house_55 rfl (lv_at hl 1 rfl) ?_
  refine lv_aload_n hx hb dX11_house_56 rfl (lv_at hl 1 rfl) ?_
  refine g_get F hK hP 0 rfl clX11 3 (by decide) flX11_34 rfl dX11_house_57 ?_
  refine g_get F hK hP 5 rfl clX10 0 (by decide) flX11_101 rfl dX11_house_60 ?_
  refine g_get F hK hP 10 rfl clX5 7 (by decide) flX11_112 rfl dX11_house_63 ?_
  refine g_put (w' := [(x, .inr (11, [.ref x_0, .int 0, .ref sp, .ref stm, .ref pl, .ref sk, .ref se, .ref ch, .int 0, .int (-1), .long 1, .ref x_11, .int 0, .ref x_13])), (pl, .inr (4, [.ref ho, .ref pl_1, .int 0, .int (-1), .int (-1), .ref pl_5])), (sp_6, .inl (G.2.1, 6, .inl (fun _ => 0))), (pl_1, .inl (G.2.1, 12, .inl (fun _ => 0))), (pl_5, .inl (G.2.1, 780, .inl f)), (stm, .inr (10, [.ref rd, .ref stm_1, .ref sp, .int 0])), (sp, .inr (2, [.ref sfl, .ref spe, .ref sru, .int 0, .ref sp_4, .ref sp_5, .ref sp_6, .int 0, .ref sp_8, .ref sp_9, .ref sp_10, .ref sp_11, .ref sp_12, .int 50])), (sfl, .inr (1, [.int 0, .int 0, .int 0, .ref sfl_3, .ref sfl_4, .ref sfl_5, .ref sfl_6, .ref sfl_7])), (spe, .inr (3, [.int 0, .ref spe_1, .ref spe_2, .ref spe_3, .ref spe_4, .ref spe_5, .ref spe_6, .ref spe_7, .ref spe_8, .ref spe_9, .ref spe_10])), (sru, .inr (7, [.int 0, .int 0, .ref sru_2, .ref sru_3, .ref sru_4, .ref sru_5, .ref sru_6, .ref sru_7])), (rd, .inr (5, [.ref x_0, .int 0, .int 0, .int 0, .int 0, .int 0, .int (-1), .int 0, .int (-1), .ref rd_9]))]) F hK hP hD hS 0 rfl clX11 8 (by decide) flX11_70 rfl rfl rfl (Nat.le_of_ble_eq_true rfl) dX11_house_66 rfl (fun H locs hP hD hS => ?_)
  refine lv_aload_n hx hb dX11_house_69 rfl (lv_at hl 1 rfl) ?_
  refine lv_aload_n hx hb dX11_house_70 rfl (lv_at hl 1 rfl) ?_
  refine g_get F hK hP 0 rfl clX11 3 (by decide) flX11_34 rfl dX11_house_71 ?_
  refine g_get F hK hP 5 rfl clX10 0 (by decide) flX11_101 rfl dX11_house_74 ?_
  refine g_get F hK hP 10 rfl clX5 8 (by decide) flX11_115 rfl dX11_house_77 ?_
  refine g_put (w' := [(x, .inr (11, [.ref x_0, .int 0, .ref sp, .ref stm, .ref pl, .ref sk, .ref se, .ref ch, .int 0, .int (-1), .long 1, .ref x_11, .int 0, .ref x_13])), (pl, .inr (4, [.ref ho, .ref pl_1, .int 0, .int (-1), .int (-1), .ref pl_5])), (sp_6, .inl (G.2.1, 6, .inl (fun _ => 0))), (pl_1, .inl (G.2.1, 12, .inl (fun _ => 0))), (pl_5, .inl (G.2.1, 780, .inl f)), (stm, .inr (10, [.ref rd, .ref stm_1, .ref sp, .int 0])), (sp, .inr (2, [.ref sfl, .ref spe, .ref sru, .int 0, .ref sp_4, .ref sp_5, .ref sp_6, .int 0, .ref sp_8, .ref sp_9, .ref sp_10, .ref sp_11, .ref sp_12, .int 50])), (sfl, .inr (1, [.int 0, .int 0, .int 0, .ref sfl_3, .ref sfl_4, .ref sfl_5, .ref sfl_6, .ref sfl_7])), (spe, .inr (3, [.int 0, .ref spe_1, .ref spe_2, .ref spe_3, .ref spe_4, .ref spe_5, .ref spe_6, .ref spe_7, .ref spe_8, .ref spe_9, .ref spe_10])), (sru, .inr (7, [.int 0, .int 0, .ref sru_2, .ref sru_3, .ref sru_4, .ref sru_5, .ref sru_6, .ref sru_7])), (rd, .inr (5, [.ref x_0, .int 0, .int 0, .int 0, .int 0, .int 0, .int (-1), .int 0, .int (-1), .ref rd_9]))]) F hK hP hD hS 0 rfl clX11 9 (by decide) flX11_73 rfl rfl rfl (Nat.le_of_ble_eq_true rfl) dX11_house_80 rfl (fun H locs hP hD hS => ?_)
  refine lv_aload_n hx hb dX11_house_83 rfl (lv_at hl 1 rfl) ?_
  refine g_get F hK hP 0 rfl clX11 8 (by decide) flX11_70 rfl dX11_house_84 ?_
  refine lv_if_eq (tgt := 96) hx hb dX11_house_87 (by decide) (fun _ => ?_) (fun h_ => absurd (by decide +kernel) h_)
  refine lv_aload_n hx hb dX11_house_96 rfl (lv_at hl 1 rfl) ?_
  refine g_get F hK hP 0 rfl clX11 2 (by decide) flX11_20 rfl dX11_house_97 ?_
  refine cvv (wr := [(x, .inr (11, [.ref x_0, .int 0, .ref sp, .ref stm, .ref pl, .ref sk, .ref se, .ref ch, .int 0, .int (-1), .long 1, .ref x_11, .int 0, .ref x_13])), (pl, .inr (4, [.ref ho, .ref pl_1, .int 0, .int (-1), .int (-1), .ref pl_5])), (pl_1, .inl (G.2.1, 12, .inl (fun _ => 0))), (pl_5, .inl (G.2.1, 780, .inl f)), (stm, .inr (10, [.ref rd, .ref stm_1, .ref sp, .int 0])), (rd, .inr (5, [.ref x_0, .int 0, .int 0, .int 0, .int 0, .int 0, .int (-1), .int 0, .int (-1), .ref rd_9]))]) (As := []) (rest := []) (b := sp) (k1 := 0) (s1 := 0) F hK hP hD hS hA (k_X2_finish l G sp sfl spe sru sp_4 sp_5 sp_6 sp_8 sp_9 sp_10 sp_11 sp_12 sfl_3 sfl_4 sfl_5 sfl_6 sfl_7 spe_1 spe_2 spe_3 spe_4 spe_5 spe_6 spe_7 spe_8 spe_9 spe_10 sru_2 sru_3 sru_4 sru_5 sru_6 sru_7) kmV_X2_finish mlX11_118 clX2 rfl 0 rfl ⟨(Nat.le_of_ble_eq_true rfl), (Nat.le_of_ble_eq_true rfl)⟩ [6, 7, 8, 9, 2] [0, 1, 3, 4, 5, 10] rfl rfl rfl rfl (by decide) hl.1 rfl (Nat.le_of_ble_eq_true rfl) dX11_house_100 ⟨(Nat.le_of_ble_eq_true rfl), (Nat.le_of_ble_eq_true rfl)⟩ rfl rfl (fun u5 H locs hwr6 (hP : va_P G.1 vwCl [(x, .inr (11, [.ref x_0, .int 0, .ref sp, .ref stm, .ref pl, .ref sk, .ref se, .ref ch, .int 0, .int (-1), .long 1, .ref x_11, .int 0, .ref x_13])), (pl, .inr (4, [.ref ho, .ref pl_1, .int 0, .int (-1), .int (-1), .ref pl_5])), (pl_1, .inl (G.2.1, 12, .inl (fun _ => 0))), (pl_5, .inl (G.2.1, 780, .inl f)), (stm, .inr (10, [.ref rd, .ref stm_1, .ref sp, .int 0])), (rd, .inr (5, [.ref x_0, .int 0, .int 0, .int 0, .int 0, .int 0, .int (-1), .int 0, .int (-1), .ref rd_9])), (sp, .inr (2, [.ref sfl, .ref spe, .ref sru, .int 0, .ref sp_4, .ref sp_5, .ref sp_6, .int 0, .ref sp_8, .ref sp_9, .ref sp_10, .ref sp_11, .ref sp_12, .int 50])), (sfl, .inr (1, [.int 0, .int 0, .int 0, .ref sfl_3, .ref sfl_4, .ref sfl_5, .ref sfl_6, .ref sfl_7])), (spe, .inr (3, [.int 0, .ref spe_1, .ref spe_2, .ref spe_3, .ref spe_4, .ref spe_5, .ref spe_6, .ref spe_7, .ref spe_8, .ref spe_9, .ref spe_10])), (sru, .inr (7, [.int 0, .int 0, .ref sru_2, .ref sru_3, .ref sru_4, .ref sru_5, .ref sru_6, .ref sru_7]))] H) (hD : va_D A [(x, .inr (11, [.ref x_0, .int 0, .ref sp, .ref stm, .ref pl, .ref sk, .ref se, .ref ch, .int 0, .int (-1), .long 1, .ref x_11, .int 0, .ref x_13])), (pl, .inr (4, [.ref ho, .ref pl_1, .int 0, .int (-1), .int (-1), .ref pl_5])), (pl_1, .inl (G.2.1, 12, .inl (fun _ => 0))), (pl_5, .inl (G.2.1, 780, .inl f)), (stm, .inr (10, [.ref rd, .ref stm_1, .ref sp, .int 0])), (rd, .inr (5, [.ref x_0, .int 0, .int 0, .int 0, .int 0, .int 0, .int (-1), .int 0, .int (-1), .ref rd_9])), (sp, .inr (2, [.ref sfl, .ref spe, .ref sru, .int 0, .ref sp_4, .ref sp_5, .ref sp_6, .int 0, .ref sp_8, .ref sp_9, .ref sp_10, .ref sp_11, .ref sp_12, .int 50])), (sfl, .inr (1, [.int 0, .int 0, .int 0, .ref sfl_3, .ref sfl_4, .ref sfl_5, .ref sfl_6, .ref sfl_7])), (spe, .inr (3, [.int 0, .ref spe_1, .ref spe_2, .ref spe_3, .ref spe_4, .ref spe_5, .ref spe_6, .ref spe_7, .ref spe_8, .ref spe_9, .ref spe_10])), (sru, .inr (7, [.int 0, .int 0, .ref sru_2, .ref sru_3, .ref sru_4, .ref sru_5, .ref sru_6, .ref sru_7]))]) hS => ?_)
  refine lv_aload_n hx hb dX11_house_103 rfl (lv_at hl 1 rfl) ?_
  refine g_get F hK hP 0 rfl clX11 2 (by decide) flX11_20 rfl dX11_house_104 ?_
  refine lv_astore_n (lv' := [(1, .ref sp), (0, .ref x)]) hx hb dX11_house_107 rfl hl (by decide) rfl (fun ls hl => ?_)
  refine lv_aload_n hx hb dX11_house_108 rfl (lv_at hl 1 rfl) ?_
  refine lv_aload_n hx hb dX11_house_109 rfl (lv_at hl 1 rfl) ?_
  refine g_get F hK hP 0 rfl clX11 4 (by decide) flX11_43 rfl dX11_house_110 ?_
  refine g_get F hK hP 1 rfl clX4 0 (by decide) flX11_121 rfl dX11_house_113 ?_
  refine g_put (w' := [(x, .inr (11, [.ref x_0, .int 0, .ref ho, .ref stm, .ref pl, .ref sk, .ref se, .ref ch, .int 0, .int (-1), .long 1, .ref x_11, .int 0, .ref x_13])), (pl, .inr (4, [.ref ho, .ref pl_1, .int 0, .int (-1), .int (-1), .ref pl_5])), (pl_1, .inl (G.2.1, 12, .inl (fun _ => 0))), (pl_5, .inl (G.2.1, 780, .inl f)), (stm, .inr (10, [.ref rd, .ref stm_1, .ref sp, .int 0])), (rd, .inr (5, [.ref x_0, .int 0, .int 0, .int 0, .int 0, .int 0, .int (-1), .int 0, .int (-1), .ref rd_9])), (sp, .inr (2, [.ref sfl, .ref spe, .ref sru, .int 0, .ref sp_4, .ref sp_5, .ref sp_6, .int 0, .ref sp_8, .ref sp_9, .ref sp_10, .ref sp_11, .ref sp_12, .int 50])), (sfl, .inr (1, [.int 0, .int 0, .int 0, .ref sfl_3, .ref sfl_4, .ref sfl_5, .ref sfl_6, .ref sfl_7])), (spe, .inr (3, [.int 0, .ref spe_1, .ref spe_2, .ref spe_3, .ref spe_4, .ref spe_5, .ref spe_6, .ref spe_7, .ref spe_8, .ref spe_9, .ref spe_10])), (sru, .inr (7, [.int 0, .int 0, .ref sru_2, .ref sru_3, .ref sru_4, .ref sru_5, .ref sru_6, .ref sru_7]))]) F hK hP hD hS 0 rfl clX11 2 (by decide) flX11_20 rfl rfl rfl (Nat.le_of_ble_eq_true rfl) dX11_house_116 rfl (fun H locs hP hD hS => ?_)
  refine lv_aload_n hx hb dX11_house_119 rfl (lv_at hl 1 rfl) ?_
  refine g_get F hK hP 0 rfl clX11 4 (by decide) flX11_43 rfl dX11_house_120 ?_
  refine lv_aload_n hx hb dX11_house_123 rfl (lv_at hl 0 rfl) ?_
  refine cvv (wr := [(x, .inr (11, [.ref x_0, .int 0, .ref ho, .ref stm, .ref pl, .ref sk, .ref se, .ref ch, .int 0, .int (-1), .long 1, .ref x_11, .int 0, .ref x_13])), (stm, .inr (10, [.ref rd, .ref stm_1, .ref sp, .int 0])), (rd, .inr (5, [.ref x_0, .int 0, .int 0, .int 0, .int 0, .int 0, .int (-1), .int 0, .int (-1), .ref rd_9])), (sp, .inr (2, [.ref sfl, .ref spe, .ref sru, .int 0, .ref sp_4, .ref sp_5, .ref sp_6, .int 0, .ref sp_8, .ref sp_9, .ref sp_10, .ref sp_11, .ref sp_12, .int 50])), (sfl, .inr (1, [.int 0, .int 0, .int 0, .ref sfl_3, .ref sfl_4, .ref sfl_5, .ref sfl_6, .ref sfl_7])), (spe, .inr (3, [.int 0, .ref spe_1, .ref spe_2, .ref spe_3, .ref spe_4, .ref spe_5, .ref spe_6, .ref spe_7, .ref spe_8, .ref spe_9, .ref spe_10])), (sru, .inr (7, [.int 0, .int 0, .ref sru_2, .ref sru_3, .ref sru_4, .ref sru_5, .ref sru_6, .ref sru_7]))]) (As := [.ref sp]) (rest := []) (b := pl) (k1 := 0) (s1 := 0) F hK hP hD hS hA (k_X4_begin l G pl sp ho pl_1 pl_5 f) kmV_X4_begin mlX11_124 clX4 rfl 0 rfl ⟨(Nat.le_of_ble_eq_true rfl), (Nat.le_of_ble_eq_true rfl)⟩ [1, 2, 3] [0, 4, 5, 6, 7, 8, 9] rfl rfl rfl rfl (by decide) hl.1 rfl (Nat.le_of_ble_eq_true rfl) dX11_house_124 ⟨(Nat.le_of_ble_eq_true rfl), (Nat.le_of_ble_eq_true rfl)⟩ rfl rfl (fun u7 H locs hwr8 (hP : va_P G.1 vwCl [(x, .inr (11, [.ref x_0, .int 0, .ref ho, .ref stm, .ref pl, .ref sk, .ref se, .ref ch, .int 0, .int (-1), .long 1, .ref x_11, .int 0, .ref x_13])), (stm, .inr (10, [.ref rd, .ref stm_1, .ref sp, .int 0])), (rd, .inr (5, [.ref x_0, .int 0, .int 0, .int 0, .int 0, .int 0, .int (-1), .int 0, .int (-1), .ref rd_9])), (sp, .inr (2, [.ref sfl, .ref spe, .ref sru, .int 0, .ref sp_4, .ref sp_5, .ref sp_6, .int 0, .ref sp_8, .ref sp_9, .ref sp_10, .ref sp_11, .ref sp_12, .int 50])), (sfl, .inr (1, [.int 0, .int 0, .int 0, .ref sfl_3, .ref sfl_4, .ref sfl_5, .ref sfl_6, .ref sfl_7])), (spe, .inr (3, [.int 0, .ref spe_1, .ref spe_2, .ref spe_3, .ref spe_4, .ref spe_5, .ref spe_6, .ref spe_7, .ref spe_8, .ref spe_9, .ref spe_10])), (sru, .inr (7, [.int 0, .int 0, .ref sru_2, .ref sru_3, .ref sru_4, .ref sru_5, .ref sru_6, .ref sru_7]))] H) (hD : va_D A [(x, .inr (11, [.ref x_0, .int 0, .ref ho, .ref stm, .ref pl, .ref sk, .ref se, .ref ch, .int 0, .int (-1), .long 1, .ref x_11, .int 0, .ref x_13])), (stm, .inr (10, [.ref rd, .ref stm_1, .ref sp, .int 0])), (rd, .inr (5, [.ref x_0, .int 0, .int 0, .int 0, .int 0, .int 0, .int (-1), .int 0, .int (-1), .ref rd_9])), (sp, .inr (2, [.ref sfl, .ref spe, .ref sru, .int 0, .ref sp_4, .ref sp_5, .ref sp_6, .int 0, .ref sp_8, .ref sp_9, .ref sp_10, .ref sp_11, .ref sp_12, .int 50])), (sfl, .inr (1, [.int 0, .int 0, .int 0, .ref sfl_3, .ref sfl_4, .ref sfl_5, .ref sfl_6, .ref sfl_7])), (spe, .inr (3, [.int 0, .ref spe_1, .ref spe_2, .ref spe_3, .ref spe_4, .ref spe_5, .ref spe_6, .ref spe_7, .ref spe_8, .ref spe_9, .ref spe_10])), (sru, .inr (7, [.int 0, .int 0, .ref sru_2, .ref sru_3, .ref sru_4, .ref sru_5, .ref sru_6, .ref sru_7]))]) hS => ?_)
  refine lv_aload_n hx hb dX11_house_127 rfl (lv_at hl 1 rfl) ?_
  refine g_get F hK hP 0 rfl clX11 3 (by decide) flX11_34 rfl dX11_house_128 ?_
  refine g_get F hK hP 1 rfl clX10 3 (by decide) flX11_126 rfl dX11_house_131 ?_
  exact r_i F hr hlk hP hD hS () [] rfl rfl rfl dX11_house_134 (Nat.le_of_ble_eq_true rfl) (Nat.le_of_ble_eq_true rfl)
end
