theorem mlX6_63 : Cond.methodLink RX6 63 yX6_takeOpening ∈ tb := tb_at 964 (by decide +kernel)
theorem kmV_X6_takeOpening : KmV yX6_takeOpening cX6_takeOpening 3 (some .boolean) 2 := ⟨tb_at (w := Cond.code yX6_takeOpening cX6_takeOpening 3 (some .boolean)) 967 (by decide +kernel), tb_at (w := Cond.initialized RX6) 159 (by decide +kernel), tb_at (w := Cond.instanceMethod yX6_takeOpening) 966 (by decide +kernel), tb_at (w := Cond.selects yX6_takeOpening.cls yX6_takeOpening yX6_takeOpening) 31 (by decide +kernel), ⟨by decide +kernel, by decide +kernel, by decide +kernel⟩⟩
theorem mlX6_24 : Cond.methodLink RX6 24 yX6_readSum ∈ tb := tb_at 938 (by decide +kernel)
theorem kmV_X6_readSum : KmV yX6_readSum cX6_readSum 4 none 1 := ⟨tb_at (w := Cond.code yX6_readSum cX6_readSum 4 none) 941 (by decide +kernel), tb_at (w := Cond.initialized RX6) 159 (by decide +kernel), tb_at (w := Cond.instanceMethod yX6_readSum) 940 (by decide +kernel), tb_at (w := Cond.selects yX6_readSum.cls yX6_readSum yX6_readSum) 26 (by decide +kernel), ⟨by decide +kernel, by decide +kernel, by decide +kernel⟩⟩
theorem mlX6_67 : Cond.methodLink RX6 67 yX5_takeSign ∈ tb := tb_at 974 (by decide +kernel)
theorem kmV_X5_takeSign : KmV yX5_takeSign cX5_takeSign 2 none 1 := ⟨tb_at (w := Cond.code yX5_takeSign cX5_takeSign 2 none) 977 (by decide +kernel), tb_at (w := Cond.initialized RX5) 154 (by decide +kernel), tb_at (w := Cond.instanceMethod yX5_takeSign) 975 (by decide +kernel), tb_at (w := Cond.selects yX5_takeSign.cls yX5_takeSign yX5_takeSign) 976 (by decide +kernel), ⟨by decide +kernel, by decide +kernel, by decide +kernel⟩⟩
theorem mlX6_89 : Cond.methodLink RX6 89 yX5_isNumber ∈ tb := tb_at 950 (by decide +kernel)
theorem flX6_45 : Cond.fieldLink RX6 45 (TX5 6).1 (TX5 6).2.1 (TX5 6).2.2.1 ∈ tb := tb_at 509 (by decide +kernel)
theorem mlX6_70 : Cond.methodLink RX6 70 yX6_addTaken ∈ tb := tb_at 951 (by decide +kernel)
theorem kmV_X6_addTaken : KmV yX6_addTaken cX6_addTaken 3 none 2 := ⟨tb_at (w := Cond.code yX6_addTaken cX6_addTaken 3 none) 954 (by decide +kernel), tb_at (w := Cond.initialized RX6) 159 (by decide +kernel), tb_at (w := Cond.instanceMethod yX6_addTaken) 953 (by decide +kernel), tb_at (w := Cond.selects yX6_addTaken.cls yX6_addTaken yX6_addTaken) 29 (by decide +kernel), ⟨by decide +kernel, by decide +kernel, by decide +kernel⟩⟩
theorem mlX6_96 : Cond.methodLink RX6 96 yX6_readPair ∈ tb := tb_at 960 (by decide +kernel)
theorem kmV_X6_readPair : KmV yX6_readPair cX6_readPair 3 none 2 := ⟨tb_at (w := Cond.code yX6_readPair cX6_readPair 3 none) 963 (by decide +kernel), tb_at (w := Cond.initialized RX6) 159 (by decide +kernel), tb_at (w := Cond.instanceMethod yX6_readPair) 962 (by decide +kernel), tb_at (w := Cond.selects yX6_readPair.cls yX6_readPair yX6_readPair) 30 (by decide +kernel), ⟨by decide +kernel, by decide +kernel, by decide +kernel⟩⟩
theorem flX6_93 : Cond.fieldLink RX6 93 (TX5 5).1 (TX5 5).2.1 (TX5 5).2.2.1 ∈ tb := tb_at 505 (by decide +kernel)
theorem mlX6_86 : Cond.methodLink RX6 86 yX6_productKind ∈ tb := tb_at 979 (by decide +kernel)
theorem kmV_X6_productKind : KmV yX6_productKind cX6_productKind 1 (some .int) 0 := ⟨tb_at (w := Cond.code yX6_productKind cX6_productKind 1 (some .int)) 982 (by decide +kernel), tb_at (w := Cond.initialized RX6) 159 (by decide +kernel), tb_at (w := Cond.instanceMethod yX6_productKind) 981 (by decide +kernel), tb_at (w := Cond.selects yX6_productKind.cls yX6_productKind yX6_productKind) 32 (by decide +kernel), ⟨by decide +kernel, by decide +kernel, by decide +kernel⟩⟩
theorem mlX6_83 : Cond.methodLink RX6 83 yX6_readPart ∈ tb := tb_at 946 (by decide +kernel)
theorem kmV_X6_readPart : KmV yX6_readPart cX6_readPart 2 none 1 := ⟨tb_at (w := Cond.code yX6_readPart cX6_readPart 2 none) 949 (by decide +kernel), tb_at (w := Cond.initialized RX6) 159 (by decide +kernel), tb_at (w := Cond.instanceMethod yX6_readPart) 948 (by decide +kernel), tb_at (w := Cond.selects yX6_readPart.cls yX6_readPart yX6_readPart) 28 (by decide +kernel), ⟨by decide +kernel, by decide +kernel, by decide +kernel⟩⟩
theorem mlX6_80 : Cond.methodLink RX6 80 yX6_readProduct ∈ tb := tb_at 942 (by decide +kernel)
theorem kmV_X6_readProduct : KmV yX6_readProduct cX6_readProduct 4 none 1 := ⟨tb_at (w := Cond.code yX6_readProduct cX6_readProduct 4 none) 945 (by decide +kernel), tb_at (w := Cond.initialized RX6) 159 (by decide +kernel), tb_at (w := Cond.instanceMethod yX6_readProduct) 944 (by decide +kernel), tb_at (w := Cond.selects yX6_readProduct.cls yX6_readProduct yX6_readProduct) 27 (by decide +kernel), ⟨by decide +kernel, by decide +kernel, by decide +kernel⟩⟩
theorem mlX6_73 : Cond.methodLink RX6 73 yX6_takeComparison ∈ tb := tb_at 1000 (by decide +kernel)
theorem kmV_X6_takeComparison : KmV yX6_takeComparison cX6_takeComparison 2 (some .int) 0 := ⟨tb_at (w := Cond.code yX6_takeComparison cX6_takeComparison 2 (some .int)) 1003 (by decide +kernel), tb_at (w := Cond.initialized RX6) 159 (by decide +kernel), tb_at (w := Cond.instanceMethod yX6_takeComparison) 1002 (by decide +kernel), tb_at (w := Cond.selects yX6_takeComparison.cls yX6_takeComparison yX6_takeComparison) 36 (by decide +kernel), ⟨by decide +kernel, by decide +kernel, by decide +kernel⟩⟩
theorem mlX6_36 : Cond.methodLink RX6 36 yX6_readTest ∈ tb := tb_at 988 (by decide +kernel)
theorem kmV_X6_readTest : KmV yX6_readTest cX6_readTest 3 none 1 := ⟨tb_at (w := Cond.code yX6_readTest cX6_readTest 3 none) 991 (by decide +kernel), tb_at (w := Cond.initialized RX6) 159 (by decide +kernel), tb_at (w := Cond.instanceMethod yX6_readTest) 990 (by decide +kernel), tb_at (w := Cond.selects yX6_readTest.cls yX6_readTest yX6_readTest) 33 (by decide +kernel), ⟨by decide +kernel, by decide +kernel, by decide +kernel⟩⟩
theorem mlX6_56 : Cond.methodLink RX6 56 yX6_readFact ∈ tb := tb_at 996 (by decide +kernel)
theorem kmV_X6_readFact : KmV yX6_readFact cX6_readFact 4 none 1 := ⟨tb_at (w := Cond.code yX6_readFact cX6_readFact 4 none) 999 (by decide +kernel), tb_at (w := Cond.initialized RX6) 159 (by decide +kernel), tb_at (w := Cond.instanceMethod yX6_readFact) 998 (by decide +kernel), tb_at (w := Cond.selects yX6_readFact.cls yX6_readFact yX6_readFact) 35 (by decide +kernel), ⟨by decide +kernel, by decide +kernel, by decide +kernel⟩⟩
theorem mlX6_42 : Cond.methodLink RX6 42 yX6_readBoth ∈ tb := tb_at 992 (by decide +kernel)
theorem kmV_X6_readBoth : KmV yX6_readBoth cX6_readBoth 3 none 1 := ⟨tb_at (w := Cond.code yX6_readBoth cX6_readBoth 3 none) 995 (by decide +kernel), tb_at (w := Cond.initialized RX6) 159 (by decide +kernel), tb_at (w := Cond.instanceMethod yX6_readBoth) 994 (by decide +kernel), tb_at (w := Cond.selects yX6_readBoth.cls yX6_readBoth yX6_readBoth) 34 (by decide +kernel), ⟨by decide +kernel, by decide +kernel, by decide +kernel⟩⟩
theorem mlX6_19 : Cond.methodLink RX6 19 yX7_beginSum ∈ tb := tb_at 934 (by decide +kernel)
theorem kmV_X7_beginSum : KmV yX7_beginSum cX7_beginSum 1 none 0 := ⟨tb_at (w := Cond.code yX7_beginSum cX7_beginSum 1 none) 937 (by decide +kernel), tb_at (w := Cond.initialized RX7) 152 (by decide +kernel), tb_at (w := Cond.instanceMethod yX7_beginSum) 935 (by decide +kernel), tb_at (w := Cond.selects yX7_beginSum.cls yX7_beginSum yX7_beginSum) 936 (by decide +kernel), ⟨by decide +kernel, by decide +kernel, by decide +kernel⟩⟩
theorem mlX6_30 : Cond.methodLink RX6 30 yX5_takeOwnWord ∈ tb := tb_at 983 (by decide +kernel)
theorem mlX6_33 : Cond.methodLink RX6 33 yX7_beginTest ∈ tb := tb_at 984 (by decide +kernel)
theorem kmV_X7_beginTest : KmV yX7_beginTest cX7_beginTest 1 none 0 := ⟨tb_at (w := Cond.code yX7_beginTest cX7_beginTest 1 none) 987 (by decide +kernel), tb_at (w := Cond.initialized RX7) 152 (by decide +kernel), tb_at (w := Cond.instanceMethod yX7_beginTest) 985 (by decide +kernel), tb_at (w := Cond.selects yX7_beginTest.cls yX7_beginTest yX7_beginTest) 986 (by decide +kernel), ⟨by decide +kernel, by decide +kernel, by decide +kernel⟩⟩
theorem mlX6_39 : Cond.methodLink RX6 39 yX7_close ∈ tb := tb_at 1004 (by decide +kernel)
theorem kmV_X7_close : KmV yX7_close cX7_close 1 none 0 := ⟨tb_at (w := Cond.code yX7_close cX7_close 1 none) 1007 (by decide +kernel), tb_at (w := Cond.initialized RX7) 152 (by decide +kernel), tb_at (w := Cond.instanceMethod yX7_close) 1005 (by decide +kernel), tb_at (w := Cond.selects yX7_close.cls yX7_close yX7_close) 1006 (by decide +kernel), ⟨by decide +kernel, by decide +kernel, by decide +kernel⟩⟩
theorem mlX10_100 : Cond.methodLink RX10 100 yX5_takeSign ∈ tb := tb_at 1008 (by decide +kernel)
theorem mlX10_50 : Cond.methodLink RX10 50 yX10_readFloor ∈ tb := tb_at 791 (by decide +kernel)
theorem kmV_X10_readFloor : KmV yX10_readFloor cX10_readFloor 5 none 0 := ⟨tb_at (w := Cond.code yX10_readFloor cX10_readFloor 5 none) 794 (by decide +kernel), tb_at (w := Cond.initialized RX10) 153 (by decide +kernel), tb_at (w := Cond.instanceMethod yX10_readFloor) 793 (by decide +kernel), tb_at (w := Cond.selects yX10_readFloor.cls yX10_readFloor yX10_readFloor) 6 (by decide +kernel), ⟨by decide +kernel, by decide +kernel, by decide +kernel⟩⟩
theorem mlX10_53 : Cond.methodLink RX10 53 yX10_readTeam ∈ tb := tb_at 845 (by decide +kernel)
theorem kmV_X10_readTeam : KmV yX10_readTeam cX10_readTeam 2 none 0 := ⟨tb_at (w := Cond.code yX10_readTeam cX10_readTeam 2 none) 848 (by decide +kernel), tb_at (w := Cond.initialized RX10) 153 (by decide +kernel), tb_at (w := Cond.instanceMethod yX10_readTeam) 847 (by decide +kernel), tb_at (w := Cond.selects yX10_readTeam.cls yX10_readTeam yX10_readTeam) 10 (by decide +kernel), ⟨by decide +kernel, by decide +kernel, by decide +kernel⟩⟩
theorem mlX10_56 : Cond.methodLink RX10 56 yX10_readPerson ∈ tb := tb_at 853 (by decide +kernel)
theorem kmV_X10_readPerson : KmV yX10_readPerson cX10_readPerson 4 none 0 := ⟨tb_at (w := Cond.code yX10_readPerson cX10_readPerson 4 none) 856 (by decide +kernel), tb_at (w := Cond.initialized RX10) 153 (by decide +kernel), tb_at (w := Cond.instanceMethod yX10_readPerson) 855 (by decide +kernel), tb_at (w := Cond.selects yX10_readPerson.cls yX10_readPerson yX10_readPerson) 11 (by decide +kernel), ⟨by decide +kernel, by decide +kernel, by decide +kernel⟩⟩
theorem mlX10_59 : Cond.methodLink RX10 59 yX10_readCannot ∈ tb := tb_at 870 (by decide +kernel)
theorem kmV_X10_readCannot : KmV yX10_readCannot cX10_readCannot 3 none 0 := ⟨tb_at (w := Cond.code yX10_readCannot cX10_readCannot 3 none) 873 (by decide +kernel), tb_at (w := Cond.initialized RX10) 153 (by decide +kernel), tb_at (w := Cond.instanceMethod yX10_readCannot) 872 (by decide +kernel), tb_at (w := Cond.selects yX10_readCannot.cls yX10_readCannot yX10_readCannot) 14 (by decide +kernel), ⟨by decide +kernel, by decide +kernel, by decide +kernel⟩⟩
theorem mlX10_62 : Cond.methodLink RX10 62 yX10_readLikes ∈ tb := tb_at 893 (by decide +kernel)
theorem kmV_X10_readLikes : KmV yX10_readLikes cX10_readLikes 4 none 0 := ⟨tb_at (w := Cond.code yX10_readLikes cX10_readLikes 4 none) 896 (by decide +kernel), tb_at (w := Cond.initialized RX10) 153 (by decide +kernel), tb_at (w := Cond.instanceMethod yX10_readLikes) 895 (by decide +kernel), tb_at (w := Cond.selects yX10_readLikes.cls yX10_readLikes yX10_readLikes) 18 (by decide +kernel), ⟨by decide +kernel, by decide +kernel, by decide +kernel⟩⟩
theorem mlX10_65 : Cond.methodLink RX10 65 yX10_readTie ∈ tb := tb_at 897 (by decide +kernel)
theorem kmV_X10_readTie : KmV yX10_readTie cX10_readTie 4 none 0 := ⟨tb_at (w := Cond.code yX10_readTie cX10_readTie 4 none) 900 (by decide +kernel), tb_at (w := Cond.initialized RX10) 153 (by decide +kernel), tb_at (w := Cond.instanceMethod yX10_readTie) 899 (by decide +kernel), tb_at (w := Cond.selects yX10_readTie.cls yX10_readTie yX10_readTie) 19 (by decide +kernel), ⟨by decide +kernel, by decide +kernel, by decide +kernel⟩⟩
theorem mlX10_68 : Cond.methodLink RX10 68 yX10_readComes ∈ tb := tb_at 905 (by decide +kernel)
theorem kmV_X10_readComes : KmV yX10_readComes cX10_readComes 3 none 0 := ⟨tb_at (w := Cond.code yX10_readComes cX10_readComes 3 none) 908 (by decide +kernel), tb_at (w := Cond.initialized RX10) 153 (by decide +kernel), tb_at (w := Cond.instanceMethod yX10_readComes) 907 (by decide +kernel), tb_at (w := Cond.selects yX10_readComes.cls yX10_readComes yX10_readComes) 20 (by decide +kernel), ⟨by decide +kernel, by decide +kernel, by decide +kernel⟩⟩
theorem mlX10_71 : Cond.methodLink RX10 71 yX10_readVisit ∈ tb := tb_at 909 (by decide +kernel)
theorem kmV_X10_readVisit : KmV yX10_readVisit cX10_readVisit 4 none 0 := ⟨tb_at (w := Cond.code yX10_readVisit cX10_readVisit 4 none) 912 (by decide +kernel), tb_at (w := Cond.initialized RX10) 153 (by decide +kernel), tb_at (w := Cond.instanceMethod yX10_readVisit) 911 (by decide +kernel), tb_at (w := Cond.selects yX10_readVisit.cls yX10_readVisit yX10_readVisit) 21 (by decide +kernel), ⟨by decide +kernel, by decide +kernel, by decide +kernel⟩⟩
theorem mlX10_74 : Cond.methodLink RX10 74 yX10_readOwn ∈ tb := tb_at 913 (by decide +kernel)
theorem kmV_X10_readOwn : KmV yX10_readOwn cX10_readOwn 3 none 0 := ⟨tb_at (w := Cond.code yX10_readOwn cX10_readOwn 3 none) 916 (by decide +kernel), tb_at (w := Cond.initialized RX10) 153 (by decide +kernel), tb_at (w := Cond.instanceMethod yX10_readOwn) 915 (by decide +kernel), tb_at (w := Cond.selects yX10_readOwn.cls yX10_readOwn yX10_readOwn) 22 (by decide +kernel), ⟨by decide +kernel, by decide +kernel, by decide +kernel⟩⟩
theorem mlX10_77 : Cond.methodLink RX10 77 yX10_readMeet ∈ tb := tb_at 918 (by decide +kernel)
theorem kmV_X10_readMeet : KmV yX10_readMeet cX10_readMeet 2 none 0 := ⟨tb_at (w := Cond.code yX10_readMeet cX10_readMeet 2 none) 921 (by decide +kernel), tb_at (w := Cond.initialized RX10) 153 (by decide +kernel), tb_at (w := Cond.instanceMethod yX10_readMeet) 920 (by decide +kernel), tb_at (w := Cond.selects yX10_readMeet.cls yX10_readMeet yX10_readMeet) 23 (by decide +kernel), ⟨by decide +kernel, by decide +kernel, by decide +kernel⟩⟩
theorem mlX10_80 : Cond.methodLink RX10 80 yX10_readTurns ∈ tb := tb_at 922 (by decide +kernel)
theorem kmV_X10_readTurns : KmV yX10_readTurns cX10_readTurns 3 none 0 := ⟨tb_at (w := Cond.code yX10_readTurns cX10_readTurns 3 none) 925 (by decide +kernel), tb_at (w := Cond.initialized RX10) 153 (by decide +kernel), tb_at (w := Cond.instanceMethod yX10_readTurns) 924 (by decide +kernel), tb_at (w := Cond.selects yX10_readTurns.cls yX10_readTurns yX10_readTurns) 24 (by decide +kernel), ⟨by decide +kernel, by decide +kernel, by decide +kernel⟩⟩
theorem mlX10_83 : Cond.methodLink RX10 83 yX10_readStand ∈ tb := tb_at 926 (by decide +kernel)
theorem kmV_X10_readStand : KmV yX10_readStand cX10_readStand 2 none 0 := ⟨tb_at (w := Cond.code yX10_readStand cX10_readStand 2 none) 929 (by decide +kernel), tb_at (w := Cond.initialized RX10) 153 (by decide +kernel), tb_at (w := Cond.instanceMethod yX10_readStand) 928 (by decide +kernel), tb_at (w := Cond.selects yX10_readStand.cls yX10_readStand yX10_readStand) 25 (by decide +kernel), ⟨by decide +kernel, by decide +kernel, by decide +kernel⟩⟩
theorem flX10_25 : Cond.fieldLink RX10 25 (TX2 2).1 (TX2 2).2.1 (TX2 2).2.2.1 ∈ tb := tb_at 362 (by decide +kernel)
theorem flX10_86 : Cond.fieldLink RX10 86 (TX7 0).1 (TX7 0).2.1 (TX7 0).2.2.1 ∈ tb := tb_at 323 (by decide +kernel)
theorem flX10_34 : Cond.fieldLink RX10 34 (TX10 1).1 (TX10 1).2.1 (TX10 1).2.2.1 ∈ tb := tb_at 556 (by decide +kernel)
theorem mlX10_93 : Cond.methodLink RX10 93 yX6_read ∈ tb := tb_at 930 (by decide +kernel)
theorem kmV_X6_read : KmV yX6_read cX6_read 2 none 1 := ⟨tb_at (w := Cond.code yX6_read cX6_read 2 none) 933 (by decide +kernel), tb_at (w := Cond.initialized RX6) 159 (by decide +kernel), tb_at (w := Cond.instanceMethod yX6_read) 931 (by decide +kernel), tb_at (w := Cond.selects yX6_read.cls yX6_read yX6_read) 932 (by decide +kernel), ⟨by decide +kernel, by decide +kernel, by decide +kernel⟩⟩
theorem flX11_34 : Cond.fieldLink RX11 34 (TX11 3).1 (TX11 3).2.1 (TX11 3).2.2.1 ∈ tb := tb_at 664 (by decide +kernel)
theorem flX11_101 : Cond.fieldLink RX11 101 (TX10 0).1 (TX10 0).2.1 (TX10 0).2.2.1 ∈ tb := tb_at 555 (by decide +kernel)
theorem flX11_112 : Cond.fieldLink RX11 112 (TX5 7).1 (TX5 7).2.1 (TX5 7).2.2.1 ∈ tb := tb_at 511 (by decide +kernel)
theorem flX11_115 : Cond.fieldLink RX11 115 (TX5 8).1 (TX5 8).2.1 (TX5 8).2.2.1 ∈ tb := tb_at 513 (by decide +kernel)
theorem flX11_20 : Cond.fieldLink RX11 20 (TX11 2).1 (TX11 2).2.1 (TX11 2).2.2.1 ∈ tb := tb_at 663 (by decide +kernel)
theorem mlX11_118 : Cond.methodLink RX11 118 yX2_finish ∈ tb := tb_at 1009 (by decide +kernel)
theorem kmV_X2_finish : KmV yX2_finish cX2_finish 2 none 0 := ⟨tb_at (w := Cond.code yX2_finish cX2_finish 2 none) 1012 (by decide +kernel), tb_at (w := Cond.initialized RX2) 149 (by decide +kernel), tb_at (w := Cond.instanceMethod yX2_finish) 1010 (by decide +kernel), tb_at (w := Cond.selects yX2_finish.cls yX2_finish yX2_finish) 1011 (by decide +kernel), ⟨by decide +kernel, by decide +kernel, by decide +kernel⟩⟩
theorem mlX11_124 : Cond.methodLink RX11 124 yX4_begin ∈ tb := tb_at 1027 (by decide +kernel)
theorem kmV_X4_begin : KmV yX4_begin cX4_begin 2 none 1 := ⟨tb_at (w := Cond.code yX4_begin cX4_begin 2 none) 1030 (by decide +kernel), tb_at (w := Cond.initialized RX4) 160 (by decide +kernel), tb_at (w := Cond.instanceMethod yX4_begin) 1028 (by decide +kernel), tb_at (w := Cond.selects yX4_begin.cls yX4_begin yX4_begin) 1029 (by decide +kernel), ⟨by decide +kernel, by decide +kernel, by decide +kernel⟩⟩
theorem flX11_126 : Cond.fieldLink RX11 126 (TX10 3).1 (TX10 3).2.1 (TX10 3).2.2.1 ∈ tb := tb_at 559 (by decide +kernel)
theorem mlX11_105 : Cond.methodLink RX11 105 yX5_isOver ∈ tb := tb_at 783 (by decide +kernel)
theorem kmV_X5_isOver : KmV yX5_isOver cX5_isOver 1 (some .boolean) 0 := ⟨tb_at (w := Cond.code yX5_isOver cX5_isOver 1 (some .boolean)) 786 (by decide +kernel), tb_at (w := Cond.initialized RX5) 154 (by decide +kernel), tb_at (w := Cond.instanceMethod yX5_isOver) 784 (by decide +kernel), tb_at (w := Cond.selects yX5_isOver.cls yX5_isOver yX5_isOver) 785 (by decide +kernel), ⟨by decide +kernel, by decide +kernel, by decide +kernel⟩⟩
theorem mlX11_109 : Cond.methodLink RX11 109 yX10_readNext ∈ tb := tb_at 787 (by decide +kernel)
theorem kmV_X10_readNext : KmV yX10_readNext cX10_readNext 1 none 0 := ⟨tb_at (w := Cond.code yX10_readNext cX10_readNext 1 none) 790 (by decide +kernel), tb_at (w := Cond.initialized RX10) 153 (by decide +kernel), tb_at (w := Cond.instanceMethod yX10_readNext) 788 (by decide +kernel), tb_at (w := Cond.selects yX10_readNext.cls yX10_readNext yX10_readNext) 789 (by decide +kernel), ⟨by decide +kernel, by decide +kernel, by decide +kernel⟩⟩
theorem mlX11_97 : Cond.methodLink RX11 97 yX10_begin ∈ tb := tb_at 724 (by decide +kernel)
theorem kmV_X10_begin : KmV yX10_begin cX10_begin 3 none 2 := ⟨tb_at (w := Cond.code yX10_begin cX10_begin 3 none) 727 (by decide +kernel), tb_at (w := Cond.initialized RX10) 153 (by decide +kernel), tb_at (w := Cond.instanceMethod yX10_begin) 725 (by decide +kernel), tb_at (w := Cond.selects yX10_begin.cls yX10_begin yX10_begin) 726 (by decide +kernel), ⟨by decide +kernel, by decide +kernel, by decide +kernel⟩⟩
theorem dX10_readNext_0 : decode cX10_readNext 0 = .ok (.aload_n 0, 1) := by decide +kernel
theorem dX10_readNext_1 : decode cX10_readNext 1 = .ok (.getfield 15, 3) := by decide +kernel
theorem dX10_readNext_102 : decode cX10_readNext 102 = .ok (.aload_n 0, 1) := by decide +kernel
theorem dX10_readNext_103 : decode cX10_readNext 103 = .ok (.invokevirtual 56, 3) := by decide +kernel
theorem dX10_readNext_106 : decode cX10_readNext 106 = .ok (.goto 107, 3) := by decide +kernel
theorem dX10_readNext_109 : decode cX10_readNext 109 = .ok (.aload_n 0, 1) := by decide +kernel
theorem dX10_readNext_110 : decode cX10_readNext 110 = .ok (.invokevirtual 59, 3) := by decide +kernel
theorem dX10_readNext_113 : decode cX10_readNext 113 = .ok (.goto 100, 3) := by decide +kernel
theorem dX10_readNext_116 : decode cX10_readNext 116 = .ok (.aload_n 0, 1) := by decide +kernel
theorem dX10_readNext_117 : decode cX10_readNext 117 = .ok (.invokevirtual 62, 3) := by decide +kernel
theorem dX10_readNext_120 : decode cX10_readNext 120 = .ok (.goto 93, 3) := by decide +kernel
theorem dX10_readNext_123 : decode cX10_readNext 123 = .ok (.aload_n 0, 1) := by decide +kernel
theorem dX10_readNext_124 : decode cX10_readNext 124 = .ok (.invokevirtual 65, 3) := by decide +kernel
theorem dX10_readNext_127 : decode cX10_readNext 127 = .ok (.goto 86, 3) := by decide +kernel
theorem dX10_readNext_130 : decode cX10_readNext 130 = .ok (.aload_n 0, 1) := by decide +kernel
theorem dX10_readNext_131 : decode cX10_readNext 131 = .ok (.invokevirtual 68, 3) := by decide +kernel
theorem dX10_readNext_134 : decode cX10_readNext 134 = .ok (.goto 79, 3) := by decide +kernel
theorem dX10_readNext_137 : decode cX10_readNext 137 = .ok (.aload_n 0, 1) := by decide +kernel
theorem dX10_readNext_138 : decode cX10_readNext 138 = .ok (.invokevirtual 71, 3) := by decide +kernel
theorem dX10_readNext_141 : decode cX10_readNext 141 = .ok (.goto 72, 3) := by decide +kernel
theorem dX10_readNext_144 : decode cX10_readNext 144 = .ok (.aload_n 0, 1) := by decide +kernel
theorem dX10_readNext_145 : decode cX10_readNext 145 = .ok (.invokevirtual 74, 3) := by decide +kernel
theorem dX10_readNext_148 : decode cX10_readNext 148 = .ok (.goto 65, 3) := by decide +kernel
theorem dX10_readNext_151 : decode cX10_readNext 151 = .ok (.aload_n 0, 1) := by decide +kernel
theorem dX10_readNext_152 : decode cX10_readNext 152 = .ok (.invokevirtual 77, 3) := by decide +kernel
theorem dX10_readNext_155 : decode cX10_readNext 155 = .ok (.goto 58, 3) := by decide +kernel
theorem dX10_readNext_158 : decode cX10_readNext 158 = .ok (.aload_n 0, 1) := by decide +kernel
theorem dX10_readNext_159 : decode cX10_readNext 159 = .ok (.invokevirtual 80, 3) := by decide +kernel
theorem dX10_readNext_162 : decode cX10_readNext 162 = .ok (.goto 51, 3) := by decide +kernel
theorem dX10_readNext_165 : decode cX10_readNext 165 = .ok (.aload_n 0, 1) := by decide +kernel
theorem dX10_readNext_166 : decode cX10_readNext 166 = .ok (.invokevirtual 83, 3) := by decide +kernel
theorem dX10_readNext_169 : decode cX10_readNext 169 = .ok (.goto 44, 3) := by decide +kernel
theorem dX10_readNext_172 : decode cX10_readNext 172 = .ok (.aload_n 0, 1) := by decide +kernel
theorem dX10_readNext_173 : decode cX10_readNext 173 = .ok (.aload_n 0, 1) := by decide +kernel
theorem dX10_readNext_174 : decode cX10_readNext 174 = .ok (.getfield 19, 3) := by decide +kernel
theorem dX10_readNext_177 : decode cX10_readNext 177 = .ok (.getfield 25, 3) := by decide +kernel
theorem dX10_readNext_180 : decode cX10_readNext 180 = .ok (.getfield 86, 3) := by decide +kernel
theorem dX10_readNext_183 : decode cX10_readNext 183 = .ok (.bipush 12, 2) := by decide +kernel
theorem dX10_readNext_185 : decode cX10_readNext 185 = .ok (.invokevirtual 89, 3) := by decide +kernel
theorem dX10_readNext_188 : decode cX10_readNext 188 = .ok (.aload_n 0, 1) := by decide +kernel
theorem dX10_readNext_189 : decode cX10_readNext 189 = .ok (.getfield 34, 3) := by decide +kernel
theorem dX10_readNext_192 : decode cX10_readNext 192 = .ok (.aload_n 0, 1) := by decide +kernel
theorem dX10_readNext_193 : decode cX10_readNext 193 = .ok (.getfield 19, 3) := by decide +kernel
theorem dX10_readNext_196 : decode cX10_readNext 196 = .ok (.getfield 25, 3) := by decide +kernel
theorem dX10_readNext_199 : decode cX10_readNext 199 = .ok (.invokevirtual 93, 3) := by decide +kernel
theorem dX10_readNext_202 : decode cX10_readNext 202 = .ok (.goto 11, 3) := by decide +kernel
theorem dX10_readNext_205 : decode cX10_readNext 205 = .ok (.aload_n 0, 1) := by decide +kernel
theorem dX10_readNext_206 : decode cX10_readNext 206 = .ok (.getfield 15, 3) := by decide +kernel
theorem dX10_readNext_209 : decode cX10_readNext 209 = .ok (.iconst 1, 1) := by decide +kernel
theorem dX10_readNext_210 : decode cX10_readNext 210 = .ok (.invokevirtual 97, 3) := by decide +kernel
theorem dX10_readNext_213 : decode cX10_readNext 213 = .ok (.aload_n 0, 1) := by decide +kernel
theorem dX10_readNext_214 : decode cX10_readNext 214 = .ok (.getfield 15, 3) := by decide +kernel
theorem dX10_readNext_217 : decode cX10_readNext 217 = .ok (.bipush 59, 2) := by decide +kernel
theorem dX10_readNext_219 : decode cX10_readNext 219 = .ok (.invokevirtual 100, 3) := by decide +kernel
theorem dX10_readNext_222 : decode cX10_readNext 222 = .ok (.aload_n 0, 1) := by decide +kernel
theorem dX10_readNext_223 : decode cX10_readNext 223 = .ok (.dup, 1) := by decide +kernel
theorem dX10_readNext_224 : decode cX10_readNext 224 = .ok (.getfield 9, 3) := by decide +kernel
theorem dX10_readNext_227 : decode cX10_readNext 227 = .ok (.iconst 1, 1) := by decide +kernel
theorem dX10_readNext_228 : decode cX10_readNext 228 = .ok (.iadd, 1) := by decide +kernel
theorem dX10_readNext_229 : decode cX10_readNext 229 = .ok (.putfield 9, 3) := by decide +kernel
theorem dX10_readNext_232 : decode cX10_readNext 232 = .ok (.return_, 1) := by decide +kernel
theorem dX10_readNext_4 : decode cX10_readNext 4 = .ok (.getfield 47, 3) := by decide +kernel
theorem dX10_readNext_7 : decode cX10_readNext 7 = .ok (.tableswitch 198 0 16 #[81, 198, 198, 198, 88, 95, 198, 102, 109, 116, 123, 130, 137, 144, 151, 158, 165], 81) := by decide +kernel
theorem dX10_readNext_88 : decode cX10_readNext 88 = .ok (.aload_n 0, 1) := by decide +kernel
theorem dX10_readNext_89 : decode cX10_readNext 89 = .ok (.invokevirtual 50, 3) := by decide +kernel
theorem dX10_readNext_92 : decode cX10_readNext 92 = .ok (.goto 121, 3) := by decide +kernel
theorem dX10_readNext_95 : decode cX10_readNext 95 = .ok (.aload_n 0, 1) := by decide +kernel
theorem dX10_readNext_96 : decode cX10_readNext 96 = .ok (.invokevirtual 53, 3) := by decide +kernel
theorem dX10_readNext_99 : decode cX10_readNext 99 = .ok (.goto 114, 3) := by decide +kernel
theorem dX11_house_0 : decode cX11_house 0 = .ok (.aload_n 0, 1) := by decide +kernel
theorem dX11_house_1 : decode cX11_house 1 = .ok (.getfield 34, 3) := by decide +kernel
theorem dX11_house_100 : decode cX11_house 100 = .ok (.invokevirtual 118, 3) := by decide +kernel
theorem dX11_house_103 : decode cX11_house 103 = .ok (.aload_n 0, 1) := by decide +kernel
theorem dX11_house_104 : decode cX11_house 104 = .ok (.getfield 20, 3) := by decide +kernel
theorem dX11_house_107 : decode cX11_house 107 = .ok (.astore_n 1, 1) := by decide +kernel
theorem dX11_house_108 : decode cX11_house 108 = .ok (.aload_n 0, 1) := by decide +kernel
theorem dX11_house_109 : decode cX11_house 109 = .ok (.aload_n 0, 1) := by decide +kernel
theorem dX11_house_110 : decode cX11_house 110 = .ok (.getfield 43, 3) := by decide +kernel
theorem dX11_house_113 : decode cX11_house 113 = .ok (.getfield 121, 3) := by decide +kernel
theorem dX11_house_116 : decode cX11_house 116 = .ok (.putfield 20, 3) := by decide +kernel
theorem dX11_house_119 : decode cX11_house 119 = .ok (.aload_n 0, 1) := by decide +kernel
theorem dX11_house_12 : decode cX11_house 12 = .ok (.invokevirtual 97, 3) := by decide +kernel
theorem dX11_house_120 : decode cX11_house 120 = .ok (.getfield 43, 3) := by decide +kernel
theorem dX11_house_123 : decode cX11_house 123 = .ok (.aload_n 1, 1) := by decide +kernel
theorem dX11_house_124 : decode cX11_house 124 = .ok (.invokevirtual 124, 3) := by decide +kernel
theorem dX11_house_127 : decode cX11_house 127 = .ok (.aload_n 0, 1) := by decide +kernel
theorem dX11_house_128 : decode cX11_house 128 = .ok (.getfield 34, 3) := by decide +kernel
theorem dX11_house_131 : decode cX11_house 131 = .ok (.getfield 126, 3) := by decide +kernel
theorem dX11_house_134 : decode cX11_house 134 = .ok (.ireturn, 1) := by decide +kernel
theorem dX11_house_15 : decode cX11_house 15 = .ok (.aload_n 0, 1) := by decide +kernel
theorem dX11_house_16 : decode cX11_house 16 = .ok (.iconst 0, 1) := by decide +kernel
theorem dX11_house_17 : decode cX11_house 17 = .ok (.putfield 13, 3) := by decide +kernel
theorem dX11_house_20 : decode cX11_house 20 = .ok (.iconst 0, 1) := by decide +kernel
theorem dX11_house_21 : decode cX11_house 21 = .ok (.istore_n 1, 1) := by decide +kernel
theorem dX11_house_22 : decode cX11_house 22 = .ok (.iload_n 1, 1) := by decide +kernel
theorem dX11_house_23 : decode cX11_house 23 = .ok (.sipush 1800, 3) := by decide +kernel
theorem dX11_house_26 : decode cX11_house 26 = .ok (.if_icmp .ge 29, 3) := by decide +kernel
theorem dX11_house_29 : decode cX11_house 29 = .ok (.aload_n 0, 1) := by decide +kernel
theorem dX11_house_30 : decode cX11_house 30 = .ok (.getfield 34, 3) := by decide +kernel
theorem dX11_house_33 : decode cX11_house 33 = .ok (.getfield 101, 3) := by decide +kernel
theorem dX11_house_36 : decode cX11_house 36 = .ok (.invokevirtual 105, 3) := by decide +kernel
theorem dX11_house_39 : decode cX11_house 39 = .ok (.ifCond .ne 16, 3) := by decide +kernel
theorem dX11_house_4 : decode cX11_house 4 = .ok (.aload_n 0, 1) := by decide +kernel
theorem dX11_house_42 : decode cX11_house 42 = .ok (.aload_n 0, 1) := by decide +kernel
theorem dX11_house_43 : decode cX11_house 43 = .ok (.getfield 34, 3) := by decide +kernel
theorem dX11_house_46 : decode cX11_house 46 = .ok (.invokevirtual 109, 3) := by decide +kernel
theorem dX11_house_49 : decode cX11_house 49 = .ok (.iinc 1 1, 3) := by decide +kernel
theorem dX11_house_5 : decode cX11_house 5 = .ok (.getfield 20, 3) := by decide +kernel
theorem dX11_house_52 : decode cX11_house 52 = .ok (.goto (-30), 3) := by decide +kernel
theorem dX11_house_55 : decode cX11_house 55 = .ok (.aload_n 0, 1) := by decide +kernel
theorem dX11_house_56 : decode cX11_house 56 = .ok (.aload_n 0, 1) := by decide +kernel
theorem dX11_house_57 : decode cX11_house 57 = .ok (.getfield 34, 3) := by decide +kernel
theorem dX11_house_60 : decode cX11_house 60 = .ok (.getfield 101, 3) := by decide +kernel
theorem dX11_house_63 : decode cX11_house 63 = .ok (.getfield 112, 3) := by decide +kernel
theorem dX11_house_66 : decode cX11_house 66 = .ok (.putfield 70, 3) := by decide +kernel
theorem dX11_house_69 : decode cX11_house 69 = .ok (.aload_n 0, 1) := by decide +kernel
theorem dX11_house_70 : decode cX11_house 70 = .ok (.aload_n 0, 1) := by decide +kernel
theorem dX11_house_71 : decode cX11_house 71 = .ok (.getfield 34, 3) := by decide +kernel
theorem dX11_house_74 : decode cX11_house 74 = .ok (.getfield 101, 3) := by decide +kernel
theorem dX11_house_77 : decode cX11_house 77 = .ok (.getfield 115, 3) := by decide +kernel
theorem dX11_house_8 : decode cX11_house 8 = .ok (.aload_n 0, 1) := by decide +kernel
theorem dX11_house_80 : decode cX11_house 80 = .ok (.putfield 73, 3) := by decide +kernel
theorem dX11_house_83 : decode cX11_house 83 = .ok (.aload_n 0, 1) := by decide +kernel
theorem dX11_house_84 : decode cX11_house 84 = .ok (.getfield 70, 3) := by decide +kernel
theorem dX11_house_87 : decode cX11_house 87 = .ok (.ifCond .eq 9, 3) := by decide +kernel
theorem dX11_house_9 : decode cX11_house 9 = .ok (.getfield 13, 3) := by decide +kernel
theorem dX11_house_90 : decode cX11_house 90 = .ok (.aload_n 0, 1) := by decide +kernel
theorem dX11_house_91 : decode cX11_house 91 = .ok (.iconst 1, 1) := by decide +kernel
theorem dX11_house_92 : decode cX11_house 92 = .ok (.invokevirtual 89, 3) := by decide +kernel
theorem dX11_house_95 : decode cX11_house 95 = .ok (.ireturn, 1) := by decide +kernel
theorem dX11_house_96 : decode cX11_house 96 = .ok (.aload_n 0, 1) := by decide +kernel
theorem dX11_house_97 : decode cX11_house 97 = .ok (.getfield 20, 3) := by decide +kernel
theorem dX6_readBoth_0 : decode cX6_readBoth 0 = .ok (.aload_n 0, 1) := by decide +kernel
theorem dX6_readBoth_1 : decode cX6_readBoth 1 = .ok (.iload_n 1, 1) := by decide +kernel
theorem dX6_readBoth_11 : decode cX6_readBoth 11 = .ok (.if_icmp .ge 43, 3) := by decide +kernel
theorem dX6_readBoth_14 : decode cX6_readBoth 14 = .ok (.aload_n 0, 1) := by decide +kernel
theorem dX6_readBoth_15 : decode cX6_readBoth 15 = .ok (.getfield 9, 3) := by decide +kernel
theorem dX6_readBoth_18 : decode cX6_readBoth 18 = .ok (.getfield 45, 3) := by decide +kernel
theorem dX6_readBoth_2 : decode cX6_readBoth 2 = .ok (.invokevirtual 56, 3) := by decide +kernel
theorem dX6_readBoth_21 : decode cX6_readBoth 21 = .ok (.bipush 24, 2) := by decide +kernel
theorem dX6_readBoth_23 : decode cX6_readBoth 23 = .ok (.if_icmp .ne 31, 3) := by decide +kernel
theorem dX6_readBoth_26 : decode cX6_readBoth 26 = .ok (.aload_n 0, 1) := by decide +kernel
theorem dX6_readBoth_27 : decode cX6_readBoth 27 = .ok (.getfield 9, 3) := by decide +kernel
theorem dX6_readBoth_30 : decode cX6_readBoth 30 = .ok (.invokevirtual 49, 3) := by decide +kernel
theorem dX6_readBoth_33 : decode cX6_readBoth 33 = .ok (.aload_n 0, 1) := by decide +kernel
theorem dX6_readBoth_34 : decode cX6_readBoth 34 = .ok (.iload_n 1, 1) := by decide +kernel
theorem dX6_readBoth_35 : decode cX6_readBoth 35 = .ok (.invokevirtual 56, 3) := by decide +kernel
theorem dX6_readBoth_38 : decode cX6_readBoth 38 = .ok (.aload_n 0, 1) := by decide +kernel
theorem dX6_readBoth_39 : decode cX6_readBoth 39 = .ok (.getfield 15, 3) := by decide +kernel
theorem dX6_readBoth_42 : decode cX6_readBoth 42 = .ok (.bipush 18, 2) := by decide +kernel
theorem dX6_readBoth_44 : decode cX6_readBoth 44 = .ok (.iconst 0, 1) := by decide +kernel
theorem dX6_readBoth_45 : decode cX6_readBoth 45 = .ok (.invokevirtual 52, 3) := by decide +kernel
theorem dX6_readBoth_48 : decode cX6_readBoth 48 = .ok (.iinc 2 1, 3) := by decide +kernel
theorem dX6_readBoth_5 : decode cX6_readBoth 5 = .ok (.iconst 0, 1) := by decide +kernel
theorem dX6_readBoth_51 : decode cX6_readBoth 51 = .ok (.goto (-44), 3) := by decide +kernel
theorem dX6_readBoth_54 : decode cX6_readBoth 54 = .ok (.return_, 1) := by decide +kernel
theorem dX6_readBoth_6 : decode cX6_readBoth 6 = .ok (.istore_n 2, 1) := by decide +kernel
theorem dX6_readBoth_7 : decode cX6_readBoth 7 = .ok (.iload_n 2, 1) := by decide +kernel
theorem dX6_readBoth_8 : decode cX6_readBoth 8 = .ok (.sipush 1800, 3) := by decide +kernel
theorem dX6_readFact_0 : decode cX6_readFact 0 = .ok (.iconst 0, 1) := by decide +kernel
theorem dX6_readFact_1 : decode cX6_readFact 1 = .ok (.istore_n 2, 1) := by decide +kernel
theorem dX6_readFact_100 : decode cX6_readFact 100 = .ok (.bipush 6, 2) := by decide +kernel
theorem dX6_readFact_102 : decode cX6_readFact 102 = .ok (.iconst 0, 1) := by decide +kernel
theorem dX6_readFact_103 : decode cX6_readFact 103 = .ok (.invokevirtual 70, 3) := by decide +kernel
theorem dX6_readFact_106 : decode cX6_readFact 106 = .ok (.goto 27, 3) := by decide +kernel
theorem dX6_readFact_109 : decode cX6_readFact 109 = .ok (.aload_n 0, 1) := by decide +kernel
theorem dX6_readFact_11 : decode cX6_readFact 11 = .ok (.aload_n 0, 1) := by decide +kernel
theorem dX6_readFact_110 : decode cX6_readFact 110 = .ok (.iload_n 1, 1) := by decide +kernel
theorem dX6_readFact_111 : decode cX6_readFact 111 = .ok (.invokevirtual 24, 3) := by decide +kernel
theorem dX6_readFact_114 : decode cX6_readFact 114 = .ok (.aload_n 0, 1) := by decide +kernel
theorem dX6_readFact_115 : decode cX6_readFact 115 = .ok (.invokevirtual 73, 3) := by decide +kernel
theorem dX6_readFact_118 : decode cX6_readFact 118 = .ok (.istore_n 3, 1) := by decide +kernel
theorem dX6_readFact_119 : decode cX6_readFact 119 = .ok (.aload_n 0, 1) := by decide +kernel
theorem dX6_readFact_12 : decode cX6_readFact 12 = .ok (.getfield 9, 3) := by decide +kernel
theorem dX6_readFact_120 : decode cX6_readFact 120 = .ok (.iload_n 1, 1) := by decide +kernel
theorem dX6_readFact_121 : decode cX6_readFact 121 = .ok (.invokevirtual 24, 3) := by decide +kernel
theorem dX6_readFact_124 : decode cX6_readFact 124 = .ok (.aload_n 0, 1) := by decide +kernel
theorem dX6_readFact_125 : decode cX6_readFact 125 = .ok (.getfield 15, 3) := by decide +kernel
theorem dX6_readFact_128 : decode cX6_readFact 128 = .ok (.iload_n 3, 1) := by decide +kernel
theorem dX6_readFact_129 : decode cX6_readFact 129 = .ok (.iconst 0, 1) := by decide +kernel
theorem dX6_readFact_130 : decode cX6_readFact 130 = .ok (.invokevirtual 52, 3) := by decide +kernel
theorem dX6_readFact_133 : decode cX6_readFact 133 = .ok (.iload_n 2, 1) := by decide +kernel
theorem dX6_readFact_134 : decode cX6_readFact 134 = .ok (.ifCond .eq 13, 3) := by decide +kernel
theorem dX6_readFact_137 : decode cX6_readFact 137 = .ok (.aload_n 0, 1) := by decide +kernel
theorem dX6_readFact_138 : decode cX6_readFact 138 = .ok (.getfield 15, 3) := by decide +kernel
theorem dX6_readFact_141 : decode cX6_readFact 141 = .ok (.bipush 7, 2) := by decide +kernel
theorem dX6_readFact_143 : decode cX6_readFact 143 = .ok (.iconst 0, 1) := by decide +kernel
theorem dX6_readFact_144 : decode cX6_readFact 144 = .ok (.invokevirtual 52, 3) := by decide +kernel
theorem dX6_readFact_147 : decode cX6_readFact 147 = .ok (.return_, 1) := by decide +kernel
theorem dX6_readFact_15 : decode cX6_readFact 15 = .ok (.getfield 45, 3) := by decide +kernel
theorem dX6_readFact_18 : decode cX6_readFact 18 = .ok (.bipush 25, 2) := by decide +kernel
theorem dX6_readFact_2 : decode cX6_readFact 2 = .ok (.iconst 0, 1) := by decide +kernel
theorem dX6_readFact_20 : decode cX6_readFact 20 = .ok (.if_icmp .ne 26, 3) := by decide +kernel
theorem dX6_readFact_23 : decode cX6_readFact 23 = .ok (.aload_n 0, 1) := by decide +kernel
theorem dX6_readFact_24 : decode cX6_readFact 24 = .ok (.getfield 9, 3) := by decide +kernel
theorem dX6_readFact_27 : decode cX6_readFact 27 = .ok (.invokevirtual 49, 3) := by decide +kernel
theorem dX6_readFact_3 : decode cX6_readFact 3 = .ok (.istore_n 3, 1) := by decide +kernel
theorem dX6_readFact_30 : decode cX6_readFact 30 = .ok (.iload_n 2, 1) := by decide +kernel
theorem dX6_readFact_31 : decode cX6_readFact 31 = .ok (.ifCond .ne 7, 3) := by decide +kernel
theorem dX6_readFact_34 : decode cX6_readFact 34 = .ok (.iconst 1, 1) := by decide +kernel
theorem dX6_readFact_35 : decode cX6_readFact 35 = .ok (.goto 4, 3) := by decide +kernel
theorem dX6_readFact_38 : decode cX6_readFact 38 = .ok (.iconst 0, 1) := by decide +kernel
theorem dX6_readFact_39 : decode cX6_readFact 39 = .ok (.istore_n 2, 1) := by decide +kernel
theorem dX6_readFact_4 : decode cX6_readFact 4 = .ok (.iload_n 3, 1) := by decide +kernel
theorem dX6_readFact_40 : decode cX6_readFact 40 = .ok (.iinc 3 1, 3) := by decide +kernel
theorem dX6_readFact_43 : decode cX6_readFact 43 = .ok (.goto (-39), 3) := by decide +kernel
theorem dX6_readFact_46 : decode cX6_readFact 46 = .ok (.aload_n 0, 1) := by decide +kernel
theorem dX6_readFact_47 : decode cX6_readFact 47 = .ok (.getfield 9, 3) := by decide +kernel
theorem dX6_readFact_5 : decode cX6_readFact 5 = .ok (.sipush 1800, 3) := by decide +kernel
theorem dX6_readFact_50 : decode cX6_readFact 50 = .ok (.bipush 91, 2) := by decide +kernel
theorem dX6_readFact_52 : decode cX6_readFact 52 = .ok (.invokevirtual 59, 3) := by decide +kernel
theorem dX6_readFact_55 : decode cX6_readFact 55 = .ok (.ifCond .eq 32, 3) := by decide +kernel
theorem dX6_readFact_58 : decode cX6_readFact 58 = .ok (.aload_n 0, 1) := by decide +kernel
theorem dX6_readFact_59 : decode cX6_readFact 59 = .ok (.bipush 91, 2) := by decide +kernel
theorem dX6_readFact_61 : decode cX6_readFact 61 = .ok (.iload_n 1, 1) := by decide +kernel
theorem dX6_readFact_62 : decode cX6_readFact 62 = .ok (.invokevirtual 63, 3) := by decide +kernel
theorem dX6_readFact_65 : decode cX6_readFact 65 = .ok (.ifCond .eq 68, 3) := by decide +kernel
theorem dX6_readFact_68 : decode cX6_readFact 68 = .ok (.aload_n 0, 1) := by decide +kernel
theorem dX6_readFact_69 : decode cX6_readFact 69 = .ok (.iload_n 1, 1) := by decide +kernel
theorem dX6_readFact_70 : decode cX6_readFact 70 = .ok (.iconst 1, 1) := by decide +kernel
theorem dX6_readFact_71 : decode cX6_readFact 71 = .ok (.iadd, 1) := by decide +kernel
theorem dX6_readFact_72 : decode cX6_readFact 72 = .ok (.invokevirtual 36, 3) := by decide +kernel
theorem dX6_readFact_75 : decode cX6_readFact 75 = .ok (.aload_n 0, 1) := by decide +kernel
theorem dX6_readFact_76 : decode cX6_readFact 76 = .ok (.getfield 9, 3) := by decide +kernel
theorem dX6_readFact_79 : decode cX6_readFact 79 = .ok (.bipush 93, 2) := by decide +kernel
theorem dX6_readFact_8 : decode cX6_readFact 8 = .ok (.if_icmp .ge 38, 3) := by decide +kernel
theorem dX6_readFact_81 : decode cX6_readFact 81 = .ok (.invokevirtual 67, 3) := by decide +kernel
theorem dX6_readFact_84 : decode cX6_readFact 84 = .ok (.goto 49, 3) := by decide +kernel
theorem dX6_readFact_87 : decode cX6_readFact 87 = .ok (.aload_n 0, 1) := by decide +kernel
theorem dX6_readFact_88 : decode cX6_readFact 88 = .ok (.getfield 9, 3) := by decide +kernel
theorem dX6_readFact_91 : decode cX6_readFact 91 = .ok (.getfield 45, 3) := by decide +kernel
theorem dX6_readFact_94 : decode cX6_readFact 94 = .ok (.bipush 26, 2) := by decide +kernel
theorem dX6_readFact_96 : decode cX6_readFact 96 = .ok (.if_icmp .ne 13, 3) := by decide +kernel
theorem dX6_readFact_99 : decode cX6_readFact 99 = .ok (.aload_n 0, 1) := by decide +kernel
theorem dX6_readPair_0 : decode cX6_readPair 0 = .ok (.aload_n 0, 1) := by decide +kernel
theorem dX6_readPair_1 : decode cX6_readPair 1 = .ok (.getfield 9, 3) := by decide +kernel
theorem dX6_readPair_10 : decode cX6_readPair 10 = .ok (.iload_n 1, 1) := by decide +kernel
theorem dX6_readPair_11 : decode cX6_readPair 11 = .ok (.invokevirtual 63, 3) := by decide +kernel
theorem dX6_readPair_14 : decode cX6_readPair 14 = .ok (.ifCond .eq 44, 3) := by decide +kernel
theorem dX6_readPair_17 : decode cX6_readPair 17 = .ok (.aload_n 0, 1) := by decide +kernel
theorem dX6_readPair_18 : decode cX6_readPair 18 = .ok (.iload_n 1, 1) := by decide +kernel
theorem dX6_readPair_19 : decode cX6_readPair 19 = .ok (.iconst 1, 1) := by decide +kernel
theorem dX6_readPair_20 : decode cX6_readPair 20 = .ok (.iadd, 1) := by decide +kernel
theorem dX6_readPair_21 : decode cX6_readPair 21 = .ok (.invokevirtual 24, 3) := by decide +kernel
theorem dX6_readPair_24 : decode cX6_readPair 24 = .ok (.aload_n 0, 1) := by decide +kernel
theorem dX6_readPair_25 : decode cX6_readPair 25 = .ok (.getfield 9, 3) := by decide +kernel
theorem dX6_readPair_28 : decode cX6_readPair 28 = .ok (.bipush 44, 2) := by decide +kernel
theorem dX6_readPair_30 : decode cX6_readPair 30 = .ok (.invokevirtual 67, 3) := by decide +kernel
theorem dX6_readPair_33 : decode cX6_readPair 33 = .ok (.aload_n 0, 1) := by decide +kernel
theorem dX6_readPair_34 : decode cX6_readPair 34 = .ok (.iload_n 1, 1) := by decide +kernel
theorem dX6_readPair_35 : decode cX6_readPair 35 = .ok (.iconst 1, 1) := by decide +kernel
theorem dX6_readPair_36 : decode cX6_readPair 36 = .ok (.iadd, 1) := by decide +kernel
theorem dX6_readPair_37 : decode cX6_readPair 37 = .ok (.invokevirtual 24, 3) := by decide +kernel
theorem dX6_readPair_4 : decode cX6_readPair 4 = .ok (.invokevirtual 49, 3) := by decide +kernel
theorem dX6_readPair_40 : decode cX6_readPair 40 = .ok (.aload_n 0, 1) := by decide +kernel
theorem dX6_readPair_41 : decode cX6_readPair 41 = .ok (.getfield 9, 3) := by decide +kernel
theorem dX6_readPair_44 : decode cX6_readPair 44 = .ok (.bipush 41, 2) := by decide +kernel
theorem dX6_readPair_46 : decode cX6_readPair 46 = .ok (.invokevirtual 67, 3) := by decide +kernel
theorem dX6_readPair_49 : decode cX6_readPair 49 = .ok (.aload_n 0, 1) := by decide +kernel
theorem dX6_readPair_50 : decode cX6_readPair 50 = .ok (.getfield 15, 3) := by decide +kernel
theorem dX6_readPair_53 : decode cX6_readPair 53 = .ok (.iload_n 2, 1) := by decide +kernel
theorem dX6_readPair_54 : decode cX6_readPair 54 = .ok (.iconst 0, 1) := by decide +kernel
theorem dX6_readPair_55 : decode cX6_readPair 55 = .ok (.invokevirtual 52, 3) := by decide +kernel
theorem dX6_readPair_58 : decode cX6_readPair 58 = .ok (.return_, 1) := by decide +kernel
theorem dX6_readPair_7 : decode cX6_readPair 7 = .ok (.aload_n 0, 1) := by decide +kernel
theorem dX6_readPair_8 : decode cX6_readPair 8 = .ok (.bipush 40, 2) := by decide +kernel
theorem dX6_readPart_0 : decode cX6_readPart 0 = .ok (.aload_n 0, 1) := by decide +kernel
theorem dX6_readPart_1 : decode cX6_readPart 1 = .ok (.getfield 9, 3) := by decide +kernel
theorem dX6_readPart_10 : decode cX6_readPart 10 = .ok (.aload_n 0, 1) := by decide +kernel
theorem dX6_readPart_102 : decode cX6_readPart 102 = .ok (.goto 85, 3) := by decide +kernel
theorem dX6_readPart_105 : decode cX6_readPart 105 = .ok (.aload_n 0, 1) := by decide +kernel
theorem dX6_readPart_106 : decode cX6_readPart 106 = .ok (.iconst 2, 1) := by decide +kernel
theorem dX6_readPart_107 : decode cX6_readPart 107 = .ok (.iconst 0, 1) := by decide +kernel
theorem dX6_readPart_108 : decode cX6_readPart 108 = .ok (.invokevirtual 70, 3) := by decide +kernel
theorem dX6_readPart_11 : decode cX6_readPart 11 = .ok (.iconst 0, 1) := by decide +kernel
theorem dX6_readPart_111 : decode cX6_readPart 111 = .ok (.goto 76, 3) := by decide +kernel
theorem dX6_readPart_114 : decode cX6_readPart 114 = .ok (.aload_n 0, 1) := by decide +kernel
theorem dX6_readPart_115 : decode cX6_readPart 115 = .ok (.iconst 3, 1) := by decide +kernel
theorem dX6_readPart_116 : decode cX6_readPart 116 = .ok (.iconst 0, 1) := by decide +kernel
theorem dX6_readPart_117 : decode cX6_readPart 117 = .ok (.invokevirtual 70, 3) := by decide +kernel
theorem dX6_readPart_12 : decode cX6_readPart 12 = .ok (.aload_n 0, 1) := by decide +kernel
theorem dX6_readPart_120 : decode cX6_readPart 120 = .ok (.goto 67, 3) := by decide +kernel
theorem dX6_readPart_123 : decode cX6_readPart 123 = .ok (.aload_n 0, 1) := by decide +kernel
theorem dX6_readPart_124 : decode cX6_readPart 124 = .ok (.iconst 4, 1) := by decide +kernel
theorem dX6_readPart_125 : decode cX6_readPart 125 = .ok (.iconst 0, 1) := by decide +kernel
theorem dX6_readPart_126 : decode cX6_readPart 126 = .ok (.invokevirtual 70, 3) := by decide +kernel
theorem dX6_readPart_129 : decode cX6_readPart 129 = .ok (.goto 58, 3) := by decide +kernel
theorem dX6_readPart_13 : decode cX6_readPart 13 = .ok (.getfield 9, 3) := by decide +kernel
theorem dX6_readPart_132 : decode cX6_readPart 132 = .ok (.aload_n 0, 1) := by decide +kernel
theorem dX6_readPart_133 : decode cX6_readPart 133 = .ok (.iconst 5, 1) := by decide +kernel
theorem dX6_readPart_134 : decode cX6_readPart 134 = .ok (.iconst 0, 1) := by decide +kernel
theorem dX6_readPart_135 : decode cX6_readPart 135 = .ok (.invokevirtual 70, 3) := by decide +kernel
theorem dX6_readPart_138 : decode cX6_readPart 138 = .ok (.goto 49, 3) := by decide +kernel
theorem dX6_readPart_141 : decode cX6_readPart 141 = .ok (.aload_n 0, 1) := by decide +kernel
theorem dX6_readPart_142 : decode cX6_readPart 142 = .ok (.iload_n 1, 1) := by decide +kernel
theorem dX6_readPart_143 : decode cX6_readPart 143 = .ok (.bipush 13, 2) := by decide +kernel
theorem dX6_readPart_145 : decode cX6_readPart 145 = .ok (.invokevirtual 96, 3) := by decide +kernel
theorem dX6_readPart_148 : decode cX6_readPart 148 = .ok (.goto 39, 3) := by decide +kernel
theorem dX6_readPart_151 : decode cX6_readPart 151 = .ok (.aload_n 0, 1) := by decide +kernel
theorem dX6_readPart_152 : decode cX6_readPart 152 = .ok (.iload_n 1, 1) := by decide +kernel
theorem dX6_readPart_153 : decode cX6_readPart 153 = .ok (.bipush 14, 2) := by decide +kernel
theorem dX6_readPart_155 : decode cX6_readPart 155 = .ok (.invokevirtual 96, 3) := by decide +kernel
theorem dX6_readPart_158 : decode cX6_readPart 158 = .ok (.goto 29, 3) := by decide +kernel
theorem dX6_readPart_16 : decode cX6_readPart 16 = .ok (.getfield 93, 3) := by decide +kernel
theorem dX6_readPart_161 : decode cX6_readPart 161 = .ok (.aload_n 0, 1) := by decide +kernel
theorem dX6_readPart_162 : decode cX6_readPart 162 = .ok (.bipush 40, 2) := by decide +kernel
theorem dX6_readPart_164 : decode cX6_readPart 164 = .ok (.iload_n 1, 1) := by decide +kernel
theorem dX6_readPart_165 : decode cX6_readPart 165 = .ok (.invokevirtual 63, 3) := by decide +kernel
theorem dX6_readPart_168 : decode cX6_readPart 168 = .ok (.ifCond .eq 19, 3) := by decide +kernel
theorem dX6_readPart_171 : decode cX6_readPart 171 = .ok (.aload_n 0, 1) := by decide +kernel
theorem dX6_readPart_172 : decode cX6_readPart 172 = .ok (.iload_n 1, 1) := by decide +kernel
theorem dX6_readPart_173 : decode cX6_readPart 173 = .ok (.iconst 1, 1) := by decide +kernel
theorem dX6_readPart_174 : decode cX6_readPart 174 = .ok (.iadd, 1) := by decide +kernel
theorem dX6_readPart_175 : decode cX6_readPart 175 = .ok (.invokevirtual 24, 3) := by decide +kernel
theorem dX6_readPart_178 : decode cX6_readPart 178 = .ok (.aload_n 0, 1) := by decide +kernel
theorem dX6_readPart_179 : decode cX6_readPart 179 = .ok (.getfield 9, 3) := by decide +kernel
theorem dX6_readPart_182 : decode cX6_readPart 182 = .ok (.bipush 41, 2) := by decide +kernel
theorem dX6_readPart_184 : decode cX6_readPart 184 = .ok (.invokevirtual 67, 3) := by decide +kernel
theorem dX6_readPart_187 : decode cX6_readPart 187 = .ok (.return_, 1) := by decide +kernel
theorem dX6_readPart_19 : decode cX6_readPart 19 = .ok (.invokevirtual 70, 3) := by decide +kernel
theorem dX6_readPart_22 : decode cX6_readPart 22 = .ok (.return_, 1) := by decide +kernel
theorem dX6_readPart_23 : decode cX6_readPart 23 = .ok (.aload_n 0, 1) := by decide +kernel
theorem dX6_readPart_24 : decode cX6_readPart 24 = .ok (.getfield 9, 3) := by decide +kernel
theorem dX6_readPart_27 : decode cX6_readPart 27 = .ok (.getfield 45, 3) := by decide +kernel
theorem dX6_readPart_30 : decode cX6_readPart 30 = .ok (.lookupswitch 131 #[(5, 75), (27, 66), (28, 84), (29, 93), (30, 102), (31, 111), (32, 121)], 66) := by decide +kernel
theorem dX6_readPart_4 : decode cX6_readPart 4 = .ok (.invokevirtual 89, 3) := by decide +kernel
theorem dX6_readPart_7 : decode cX6_readPart 7 = .ok (.ifCond .eq 16, 3) := by decide +kernel
theorem dX6_readPart_96 : decode cX6_readPart 96 = .ok (.aload_n 0, 1) := by decide +kernel
theorem dX6_readPart_97 : decode cX6_readPart 97 = .ok (.iconst 1, 1) := by decide +kernel
theorem dX6_readPart_98 : decode cX6_readPart 98 = .ok (.iconst 0, 1) := by decide +kernel
theorem dX6_readPart_99 : decode cX6_readPart 99 = .ok (.invokevirtual 70, 3) := by decide +kernel
theorem dX6_readProduct_0 : decode cX6_readProduct 0 = .ok (.aload_n 0, 1) := by decide +kernel
theorem dX6_readProduct_1 : decode cX6_readProduct 1 = .ok (.iload_n 1, 1) := by decide +kernel
theorem dX6_readProduct_11 : decode cX6_readProduct 11 = .ok (.if_icmp .ge 43, 3) := by decide +kernel
theorem dX6_readProduct_14 : decode cX6_readProduct 14 = .ok (.aload_n 0, 1) := by decide +kernel
theorem dX6_readProduct_15 : decode cX6_readProduct 15 = .ok (.invokevirtual 86, 3) := by decide +kernel
theorem dX6_readProduct_18 : decode cX6_readProduct 18 = .ok (.iconst (-1), 1) := by decide +kernel
theorem dX6_readProduct_19 : decode cX6_readProduct 19 = .ok (.if_icmp .eq 35, 3) := by decide +kernel
theorem dX6_readProduct_2 : decode cX6_readProduct 2 = .ok (.invokevirtual 83, 3) := by decide +kernel
theorem dX6_readProduct_22 : decode cX6_readProduct 22 = .ok (.aload_n 0, 1) := by decide +kernel
theorem dX6_readProduct_23 : decode cX6_readProduct 23 = .ok (.invokevirtual 86, 3) := by decide +kernel
theorem dX6_readProduct_26 : decode cX6_readProduct 26 = .ok (.istore_n 3, 1) := by decide +kernel
theorem dX6_readProduct_27 : decode cX6_readProduct 27 = .ok (.aload_n 0, 1) := by decide +kernel
theorem dX6_readProduct_28 : decode cX6_readProduct 28 = .ok (.getfield 9, 3) := by decide +kernel
theorem dX6_readProduct_31 : decode cX6_readProduct 31 = .ok (.invokevirtual 49, 3) := by decide +kernel
theorem dX6_readProduct_34 : decode cX6_readProduct 34 = .ok (.aload_n 0, 1) := by decide +kernel
theorem dX6_readProduct_35 : decode cX6_readProduct 35 = .ok (.iload_n 1, 1) := by decide +kernel
theorem dX6_readProduct_36 : decode cX6_readProduct 36 = .ok (.invokevirtual 83, 3) := by decide +kernel
theorem dX6_readProduct_39 : decode cX6_readProduct 39 = .ok (.aload_n 0, 1) := by decide +kernel
theorem dX6_readProduct_40 : decode cX6_readProduct 40 = .ok (.getfield 15, 3) := by decide +kernel
theorem dX6_readProduct_43 : decode cX6_readProduct 43 = .ok (.iload_n 3, 1) := by decide +kernel
theorem dX6_readProduct_44 : decode cX6_readProduct 44 = .ok (.iconst 0, 1) := by decide +kernel
theorem dX6_readProduct_45 : decode cX6_readProduct 45 = .ok (.invokevirtual 52, 3) := by decide +kernel
theorem dX6_readProduct_48 : decode cX6_readProduct 48 = .ok (.iinc 2 1, 3) := by decide +kernel
theorem dX6_readProduct_5 : decode cX6_readProduct 5 = .ok (.iconst 0, 1) := by decide +kernel
theorem dX6_readProduct_51 : decode cX6_readProduct 51 = .ok (.goto (-44), 3) := by decide +kernel
theorem dX6_readProduct_54 : decode cX6_readProduct 54 = .ok (.return_, 1) := by decide +kernel
theorem dX6_readProduct_6 : decode cX6_readProduct 6 = .ok (.istore_n 2, 1) := by decide +kernel
theorem dX6_readProduct_7 : decode cX6_readProduct 7 = .ok (.iload_n 2, 1) := by decide +kernel
theorem dX6_readProduct_8 : decode cX6_readProduct 8 = .ok (.sipush 1800, 3) := by decide +kernel
theorem dX6_readSum_0 : decode cX6_readSum 0 = .ok (.aload_n 0, 1) := by decide +kernel
theorem dX6_readSum_1 : decode cX6_readSum 1 = .ok (.iload_n 1, 1) := by decide +kernel
theorem dX6_readSum_11 : decode cX6_readSum 11 = .ok (.if_icmp .ge 74, 3) := by decide +kernel
theorem dX6_readSum_14 : decode cX6_readSum 14 = .ok (.aload_n 0, 1) := by decide +kernel
theorem dX6_readSum_15 : decode cX6_readSum 15 = .ok (.getfield 9, 3) := by decide +kernel
theorem dX6_readSum_18 : decode cX6_readSum 18 = .ok (.bipush 43, 2) := by decide +kernel
theorem dX6_readSum_2 : decode cX6_readSum 2 = .ok (.invokevirtual 80, 3) := by decide +kernel
theorem dX6_readSum_20 : decode cX6_readSum 20 = .ok (.invokevirtual 59, 3) := by decide +kernel
theorem dX6_readSum_23 : decode cX6_readSum 23 = .ok (.ifCond .ne 15, 3) := by decide +kernel
theorem dX6_readSum_26 : decode cX6_readSum 26 = .ok (.aload_n 0, 1) := by decide +kernel
theorem dX6_readSum_27 : decode cX6_readSum 27 = .ok (.getfield 9, 3) := by decide +kernel
theorem dX6_readSum_30 : decode cX6_readSum 30 = .ok (.bipush 45, 2) := by decide +kernel
theorem dX6_readSum_32 : decode cX6_readSum 32 = .ok (.invokevirtual 59, 3) := by decide +kernel
theorem dX6_readSum_35 : decode cX6_readSum 35 = .ok (.ifCond .eq 50, 3) := by decide +kernel
theorem dX6_readSum_38 : decode cX6_readSum 38 = .ok (.aload_n 0, 1) := by decide +kernel
theorem dX6_readSum_39 : decode cX6_readSum 39 = .ok (.getfield 9, 3) := by decide +kernel
theorem dX6_readSum_42 : decode cX6_readSum 42 = .ok (.bipush 43, 2) := by decide +kernel
theorem dX6_readSum_44 : decode cX6_readSum 44 = .ok (.invokevirtual 59, 3) := by decide +kernel
theorem dX6_readSum_47 : decode cX6_readSum 47 = .ok (.ifCond .eq 8, 3) := by decide +kernel
theorem dX6_readSum_5 : decode cX6_readSum 5 = .ok (.iconst 0, 1) := by decide +kernel
theorem dX6_readSum_50 : decode cX6_readSum 50 = .ok (.bipush 8, 2) := by decide +kernel
theorem dX6_readSum_52 : decode cX6_readSum 52 = .ok (.goto 5, 3) := by decide +kernel
theorem dX6_readSum_55 : decode cX6_readSum 55 = .ok (.bipush 9, 2) := by decide +kernel
theorem dX6_readSum_57 : decode cX6_readSum 57 = .ok (.istore_n 3, 1) := by decide +kernel
theorem dX6_readSum_58 : decode cX6_readSum 58 = .ok (.aload_n 0, 1) := by decide +kernel
theorem dX6_readSum_59 : decode cX6_readSum 59 = .ok (.getfield 9, 3) := by decide +kernel
theorem dX6_readSum_6 : decode cX6_readSum 6 = .ok (.istore_n 2, 1) := by decide +kernel
theorem dX6_readSum_62 : decode cX6_readSum 62 = .ok (.invokevirtual 49, 3) := by decide +kernel
theorem dX6_readSum_65 : decode cX6_readSum 65 = .ok (.aload_n 0, 1) := by decide +kernel
theorem dX6_readSum_66 : decode cX6_readSum 66 = .ok (.iload_n 1, 1) := by decide +kernel
theorem dX6_readSum_67 : decode cX6_readSum 67 = .ok (.invokevirtual 80, 3) := by decide +kernel
theorem dX6_readSum_7 : decode cX6_readSum 7 = .ok (.iload_n 2, 1) := by decide +kernel
theorem dX6_readSum_70 : decode cX6_readSum 70 = .ok (.aload_n 0, 1) := by decide +kernel
theorem dX6_readSum_71 : decode cX6_readSum 71 = .ok (.getfield 15, 3) := by decide +kernel
theorem dX6_readSum_74 : decode cX6_readSum 74 = .ok (.iload_n 3, 1) := by decide +kernel
theorem dX6_readSum_75 : decode cX6_readSum 75 = .ok (.iconst 0, 1) := by decide +kernel
theorem dX6_readSum_76 : decode cX6_readSum 76 = .ok (.invokevirtual 52, 3) := by decide +kernel
theorem dX6_readSum_79 : decode cX6_readSum 79 = .ok (.iinc 2 1, 3) := by decide +kernel
theorem dX6_readSum_8 : decode cX6_readSum 8 = .ok (.sipush 1800, 3) := by decide +kernel
theorem dX6_readSum_82 : decode cX6_readSum 82 = .ok (.goto (-75), 3) := by decide +kernel
theorem dX6_readSum_85 : decode cX6_readSum 85 = .ok (.return_, 1) := by decide +kernel
theorem dX6_readTest_0 : decode cX6_readTest 0 = .ok (.aload_n 0, 1) := by decide +kernel
theorem dX6_readTest_1 : decode cX6_readTest 1 = .ok (.iload_n 1, 1) := by decide +kernel
theorem dX6_readTest_11 : decode cX6_readTest 11 = .ok (.if_icmp .ge 43, 3) := by decide +kernel
theorem dX6_readTest_14 : decode cX6_readTest 14 = .ok (.aload_n 0, 1) := by decide +kernel
theorem dX6_readTest_15 : decode cX6_readTest 15 = .ok (.getfield 9, 3) := by decide +kernel
theorem dX6_readTest_18 : decode cX6_readTest 18 = .ok (.getfield 45, 3) := by decide +kernel
theorem dX6_readTest_2 : decode cX6_readTest 2 = .ok (.invokevirtual 42, 3) := by decide +kernel
theorem dX6_readTest_21 : decode cX6_readTest 21 = .ok (.bipush 23, 2) := by decide +kernel
theorem dX6_readTest_23 : decode cX6_readTest 23 = .ok (.if_icmp .ne 31, 3) := by decide +kernel
theorem dX6_readTest_26 : decode cX6_readTest 26 = .ok (.aload_n 0, 1) := by decide +kernel
theorem dX6_readTest_27 : decode cX6_readTest 27 = .ok (.getfield 9, 3) := by decide +kernel
theorem dX6_readTest_30 : decode cX6_readTest 30 = .ok (.invokevirtual 49, 3) := by decide +kernel
theorem dX6_readTest_33 : decode cX6_readTest 33 = .ok (.aload_n 0, 1) := by decide +kernel
theorem dX6_readTest_34 : decode cX6_readTest 34 = .ok (.iload_n 1, 1) := by decide +kernel
theorem dX6_readTest_35 : decode cX6_readTest 35 = .ok (.invokevirtual 42, 3) := by decide +kernel
theorem dX6_readTest_38 : decode cX6_readTest 38 = .ok (.aload_n 0, 1) := by decide +kernel
theorem dX6_readTest_39 : decode cX6_readTest 39 = .ok (.getfield 15, 3) := by decide +kernel
theorem dX6_readTest_42 : decode cX6_readTest 42 = .ok (.bipush 19, 2) := by decide +kernel
theorem dX6_readTest_44 : decode cX6_readTest 44 = .ok (.iconst 0, 1) := by decide +kernel
theorem dX6_readTest_45 : decode cX6_readTest 45 = .ok (.invokevirtual 52, 3) := by decide +kernel
theorem dX6_readTest_48 : decode cX6_readTest 48 = .ok (.iinc 2 1, 3) := by decide +kernel
theorem dX6_readTest_5 : decode cX6_readTest 5 = .ok (.iconst 0, 1) := by decide +kernel
theorem dX6_readTest_51 : decode cX6_readTest 51 = .ok (.goto (-44), 3) := by decide +kernel
theorem dX6_readTest_54 : decode cX6_readTest 54 = .ok (.return_, 1) := by decide +kernel
theorem dX6_readTest_6 : decode cX6_readTest 6 = .ok (.istore_n 2, 1) := by decide +kernel
theorem dX6_readTest_7 : decode cX6_readTest 7 = .ok (.iload_n 2, 1) := by decide +kernel
theorem dX6_readTest_8 : decode cX6_readTest 8 = .ok (.sipush 1800, 3) := by decide +kernel
theorem dX6_read_0 : decode cX6_read 0 = .ok (.aload_n 0, 1) := by decide +kernel
theorem dX6_read_1 : decode cX6_read 1 = .ok (.aload_n 1, 1) := by decide +kernel
theorem dX6_read_12 : decode cX6_read 12 = .ok (.aload_n 0, 1) := by decide +kernel
theorem dX6_read_13 : decode cX6_read 13 = .ok (.iconst 0, 1) := by decide +kernel
theorem dX6_read_14 : decode cX6_read 14 = .ok (.invokevirtual 24, 3) := by decide +kernel
theorem dX6_read_17 : decode cX6_read 17 = .ok (.aload_n 0, 1) := by decide +kernel
theorem dX6_read_18 : decode cX6_read 18 = .ok (.getfield 9, 3) := by decide +kernel
theorem dX6_read_2 : decode cX6_read 2 = .ok (.putfield 15, 3) := by decide +kernel
theorem dX6_read_21 : decode cX6_read 21 = .ok (.bipush 22, 2) := by decide +kernel
theorem dX6_read_23 : decode cX6_read 23 = .ok (.invokevirtual 30, 3) := by decide +kernel
theorem dX6_read_26 : decode cX6_read 26 = .ok (.aload_n 0, 1) := by decide +kernel
theorem dX6_read_27 : decode cX6_read 27 = .ok (.getfield 15, 3) := by decide +kernel
theorem dX6_read_30 : decode cX6_read 30 = .ok (.invokevirtual 33, 3) := by decide +kernel
theorem dX6_read_33 : decode cX6_read 33 = .ok (.aload_n 0, 1) := by decide +kernel
theorem dX6_read_34 : decode cX6_read 34 = .ok (.iconst 0, 1) := by decide +kernel
theorem dX6_read_35 : decode cX6_read 35 = .ok (.invokevirtual 36, 3) := by decide +kernel
theorem dX6_read_38 : decode cX6_read 38 = .ok (.aload_n 0, 1) := by decide +kernel
theorem dX6_read_39 : decode cX6_read 39 = .ok (.getfield 15, 3) := by decide +kernel
theorem dX6_read_42 : decode cX6_read 42 = .ok (.invokevirtual 39, 3) := by decide +kernel
theorem dX6_read_45 : decode cX6_read 45 = .ok (.return_, 1) := by decide +kernel
theorem dX6_read_5 : decode cX6_read 5 = .ok (.aload_n 0, 1) := by decide +kernel
theorem dX6_read_6 : decode cX6_read 6 = .ok (.getfield 15, 3) := by decide +kernel
theorem dX6_read_9 : decode cX6_read 9 = .ok (.invokevirtual 19, 3) := by decide +kernel
