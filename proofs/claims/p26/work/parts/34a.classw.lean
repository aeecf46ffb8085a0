theorem mlX4_101 : Cond.methodLink RX4 101 yX4_standing ∈ tb := tb_at 1125 (by decide +kernel)
theorem flX4_104 : Cond.fieldLink RX4 104 (TX2 3).1 (TX2 3).2.1 (TX2 3).2.2.1 ∈ tb := tb_at 369 (by decide +kernel)
theorem flX4_15 : Cond.fieldLink RX4 15 (TX4 2).1 (TX4 2).2.1 (TX4 2).2.2.1 ∈ tb := tb_at 587 (by decide +kernel)
theorem flX4_19 : Cond.fieldLink RX4 19 (TX4 3).1 (TX4 3).2.1 (TX4 3).2.2.1 ∈ tb := tb_at 589 (by decide +kernel)
theorem flX4_22 : Cond.fieldLink RX4 22 (TX4 4).1 (TX4 4).2.1 (TX4 4).2.2.1 ∈ tb := tb_at 591 (by decide +kernel)
theorem mlX4_78 : Cond.methodLink RX4 78 yX4_findForbiddenDay ∈ tb := tb_at 1113 (by decide +kernel)
theorem kmV_X4_findForbiddenDay : KmV yX4_findForbiddenDay cX4_findForbiddenDay 4 none 0 := ⟨tb_at (w := Cond.code yX4_findForbiddenDay cX4_findForbiddenDay 4 none) 1116 (by decide +kernel), tb_at (w := Cond.initialized RX4) 160 (by decide +kernel), tb_at (w := Cond.instanceMethod yX4_findForbiddenDay) 1115 (by decide +kernel), tb_at (w := Cond.selects yX4_findForbiddenDay.cls yX4_findForbiddenDay yX4_findForbiddenDay) 40 (by decide +kernel), ⟨by decide +kernel, by decide +kernel, by decide +kernel⟩⟩
theorem mlX4_81 : Cond.methodLink RX4 81 yX4_findOtherNumber ∈ tb := tb_at 1117 (by decide +kernel)
theorem kmV_X4_findOtherNumber : KmV yX4_findOtherNumber cX4_findOtherNumber 2 none 0 := ⟨tb_at (w := Cond.code yX4_findOtherNumber cX4_findOtherNumber 2 none) 1120 (by decide +kernel), tb_at (w := Cond.initialized RX4) 160 (by decide +kernel), tb_at (w := Cond.instanceMethod yX4_findOtherNumber) 1119 (by decide +kernel), tb_at (w := Cond.selects yX4_findOtherNumber.cls yX4_findOtherNumber yX4_findOtherNumber) 41 (by decide +kernel), ⟨by decide +kernel, by decide +kernel, by decide +kernel⟩⟩
theorem mlX4_84 : Cond.methodLink RX4 84 yX4_findStanding ∈ tb := tb_at 1121 (by decide +kernel)
theorem kmV_X4_findStanding : KmV yX4_findStanding cX4_findStanding 2 none 0 := ⟨tb_at (w := Cond.code yX4_findStanding cX4_findStanding 2 none) 1124 (by decide +kernel), tb_at (w := Cond.initialized RX4) 160 (by decide +kernel), tb_at (w := Cond.instanceMethod yX4_findStanding) 1123 (by decide +kernel), tb_at (w := Cond.selects yX4_findStanding.cls yX4_findStanding yX4_findStanding) 42 (by decide +kernel), ⟨by decide +kernel, by decide +kernel, by decide +kernel⟩⟩
theorem mlX4_87 : Cond.methodLink RX4 87 yX4_findTeamApart ∈ tb := tb_at 1126 (by decide +kernel)
theorem kmV_X4_findTeamApart : KmV yX4_findTeamApart cX4_findTeamApart 2 none 0 := ⟨tb_at (w := Cond.code yX4_findTeamApart cX4_findTeamApart 2 none) 1129 (by decide +kernel), tb_at (w := Cond.initialized RX4) 160 (by decide +kernel), tb_at (w := Cond.instanceMethod yX4_findTeamApart) 1128 (by decide +kernel), tb_at (w := Cond.selects yX4_findTeamApart.cls yX4_findTeamApart yX4_findTeamApart) 43 (by decide +kernel), ⟨by decide +kernel, by decide +kernel, by decide +kernel⟩⟩
theorem mlX4_75 : Cond.methodLink RX4 75 yX4_examine ∈ tb := tb_at 1233 (by decide +kernel)
theorem kmV_X4_examine : KmV yX4_examine cX4_examine 1 none 0 := ⟨tb_at (w := Cond.code yX4_examine cX4_examine 1 none) 1112 (by decide +kernel), tb_at (w := Cond.initialized RX4) 160 (by decide +kernel), tb_at (w := Cond.instanceMethod yX4_examine) 1110 (by decide +kernel), tb_at (w := Cond.selects yX4_examine.cls yX4_examine yX4_examine) 1111 (by decide +kernel), ⟨by decide +kernel, by decide +kernel, by decide +kernel⟩⟩
theorem mlX4_136 : Cond.methodLink RX4 136 yX4_tieWorth ∈ tb := tb_at 1142 (by decide +kernel)
theorem mlX4_140 : Cond.methodLink RX4 140 yX4_inCount ∈ tb := tb_at 1147 (by decide +kernel)
theorem mlX8_87 : Cond.methodLink RX8 87 yX8_fitNow ∈ tb := tb_at 1420 (by decide +kernel)
theorem kmV_X8_fitNow : KmV yX8_fitNow cX8_fitNow 5 (some .int) 0 := ⟨tb_at (w := Cond.code yX8_fitNow cX8_fitNow 5 (some .int)) 1423 (by decide +kernel), tb_at (w := Cond.initialized RX8) 163 (by decide +kernel), tb_at (w := Cond.instanceMethod yX8_fitNow) 1421 (by decide +kernel), tb_at (w := Cond.selects yX8_fitNow.cls yX8_fitNow yX8_fitNow) 1422 (by decide +kernel), ⟨by decide +kernel, by decide +kernel, by decide +kernel⟩⟩
theorem mlX8_83 : Cond.methodLink RX8 83 yX8_exchangeFirst ∈ tb := tb_at 1416 (by decide +kernel)
theorem kmV_X8_exchangeFirst : KmV yX8_exchangeFirst cX8_exchangeFirst 4 (some .boolean) 0 := ⟨tb_at (w := Cond.code yX8_exchangeFirst cX8_exchangeFirst 4 (some .boolean)) 1419 (by decide +kernel), tb_at (w := Cond.initialized RX8) 163 (by decide +kernel), tb_at (w := Cond.instanceMethod yX8_exchangeFirst) 1418 (by decide +kernel), tb_at (w := Cond.selects yX8_exchangeFirst.cls yX8_exchangeFirst yX8_exchangeFirst) 59 (by decide +kernel), ⟨by decide +kernel, by decide +kernel, by decide +kernel⟩⟩
theorem mlX11_89 : Cond.methodLink RX11 89 yX11_refuse ∈ tb := tb_at 708 (by decide +kernel)
theorem kmV_X11_refuse : KmV yX11_refuse cX11_refuse 2 (some .int) 1 := ⟨tb_at (w := Cond.code yX11_refuse cX11_refuse 2 (some .int)) 711 (by decide +kernel), tb_at (w := Cond.initialized RX11) 148 (by decide +kernel), tb_at (w := Cond.instanceMethod yX11_refuse) 710 (by decide +kernel), tb_at (w := Cond.selects yX11_refuse.cls yX11_refuse yX11_refuse) 1 (by decide +kernel), ⟨by decide +kernel, by decide +kernel, by decide +kernel⟩⟩
theorem mlX11_227 : Cond.methodLink RX11 227 yX11_takeSets ∈ tb := tb_at 1074 (by decide +kernel)
theorem kmV_X11_takeSets : KmV yX11_takeSets cX11_takeSets 4 none 1 := ⟨tb_at (w := Cond.code yX11_takeSets cX11_takeSets 4 none) 1077 (by decide +kernel), tb_at (w := Cond.initialized RX11) 148 (by decide +kernel), tb_at (w := Cond.instanceMethod yX11_takeSets) 1076 (by decide +kernel), tb_at (w := Cond.selects yX11_takeSets.cls yX11_takeSets yX11_takeSets) 39 (by decide +kernel), ⟨by decide +kernel, by decide +kernel, by decide +kernel⟩⟩
theorem mlX11_245 : Cond.methodLink RX11 245 yX4_examine ∈ tb := tb_at 1109 (by decide +kernel)
theorem flX11_248 : Cond.fieldLink RX11 248 (TX4 2).1 (TX4 2).2.1 (TX4 2).2.2.1 ∈ tb := tb_at 588 (by decide +kernel)
theorem flX11_251 : Cond.fieldLink RX11 251 (TX4 3).1 (TX4 3).2.1 (TX4 3).2.2.1 ∈ tb := tb_at 590 (by decide +kernel)
theorem flX11_254 : Cond.fieldLink RX11 254 (TX4 4).1 (TX4 4).2.1 (TX4 4).2.2.1 ∈ tb := tb_at 592 (by decide +kernel)
theorem mlX11_257 : Cond.methodLink RX11 257 yX4_total ∈ tb := tb_at 1138 (by decide +kernel)
theorem kmV_X4_total : KmV yX4_total cX4_total 5 (some .int) 0 := ⟨tb_at (w := Cond.code yX4_total cX4_total 5 (some .int)) 1141 (by decide +kernel), tb_at (w := Cond.initialized RX4) 160 (by decide +kernel), tb_at (w := Cond.instanceMethod yX4_total) 1139 (by decide +kernel), tb_at (w := Cond.selects yX4_total.cls yX4_total yX4_total) 1140 (by decide +kernel), ⟨by decide +kernel, by decide +kernel, by decide +kernel⟩⟩
theorem mlX11_278 : Cond.methodLink RX11 278 yX11_areTwo ∈ tb := tb_at 1245 (by decide +kernel)
theorem kmV_X11_areTwo : KmV yX11_areTwo cX11_areTwo 3 (some .boolean) 2 := ⟨tb_at (w := Cond.code yX11_areTwo cX11_areTwo 3 (some .boolean)) 1248 (by decide +kernel), tb_at (w := Cond.initialized RX11) 148 (by decide +kernel), tb_at (w := Cond.instanceMethod yX11_areTwo) 1247 (by decide +kernel), tb_at (w := Cond.selects yX11_areTwo.cls yX11_areTwo yX11_areTwo) 49 (by decide +kernel), ⟨by decide +kernel, by decide +kernel, by decide +kernel⟩⟩
theorem cnX11_281 : Cond.constant RX11 281 (-1000000000) ∈ tb := tb_at 1249 (by decide +kernel)
theorem flX11_76 : Cond.fieldLink RX11 76 (TX11 10).1 (TX11 10).2.1 (TX11 10).2.2.1 ∈ tb := tb_at 671 (by decide +kernel)
theorem mlX11_350 : Cond.methodLink RX11 350 yX8_settle ∈ tb := tb_at 1399 (by decide +kernel)
theorem kmV_X8_settle : KmV yX8_settle cX8_settle 4 none 1 := ⟨tb_at (w := Cond.code yX8_settle cX8_settle 4 none) 1402 (by decide +kernel), tb_at (w := Cond.initialized RX8) 163 (by decide +kernel), tb_at (w := Cond.instanceMethod yX8_settle) 1400 (by decide +kernel), tb_at (w := Cond.selects yX8_settle.cls yX8_settle yX8_settle) 1401 (by decide +kernel), ⟨by decide +kernel, by decide +kernel, by decide +kernel⟩⟩
theorem mlX11_353 : Cond.methodLink RX11 353 yX8_exchangeAll ∈ tb := tb_at 1412 (by decide +kernel)
theorem kmV_X8_exchangeAll : KmV yX8_exchangeAll cX8_exchangeAll 2 (some .int) 0 := ⟨tb_at (w := Cond.code yX8_exchangeAll cX8_exchangeAll 2 (some .int)) 1415 (by decide +kernel), tb_at (w := Cond.initialized RX8) 163 (by decide +kernel), tb_at (w := Cond.instanceMethod yX8_exchangeAll) 1413 (by decide +kernel), tb_at (w := Cond.selects yX8_exchangeAll.cls yX8_exchangeAll yX8_exchangeAll) 1414 (by decide +kernel), ⟨by decide +kernel, by decide +kernel, by decide +kernel⟩⟩
theorem mlX11_358 : Cond.methodLink RX11 358 yX8_fitNow ∈ tb := tb_at 1436 (by decide +kernel)
theorem clX0_25 : Cond.constantLong RX0 25 100 ∈ tb := tb_at 1319 (by decide +kernel)
theorem mlX0_17 : Cond.methodLink RX0 17 yJ7_fill_d0a16 ∈ tb := tb_at 1310 (by decide +kernel)
theorem kmS_J7_fill_d0a16 : KmS yJ7_fill_d0a16 cJ7_fill_d0a16 5 none 2 := ⟨tb_at (w := Cond.code yJ7_fill_d0a16 cJ7_fill_d0a16 5 none) 1312 (by decide +kernel), tb_at (w := Cond.initialized RJ7) 161 (by decide +kernel), tb_at (w := Cond.static yJ7_fill_d0a16) 1311 (by decide +kernel), ⟨by decide +kernel, by decide +kernel, by decide +kernel⟩⟩
theorem clX0_23 : Cond.constantLong RX0 23 1000000000000 ∈ tb := tb_at 1313 (by decide +kernel)
theorem flX0_59 : Cond.fieldLink RX0 59 (TX2 11).1 (TX2 11).2.1 (TX2 11).2.2.1 ∈ tb := tb_at 394 (by decide +kernel)
theorem flX0_62 : Cond.fieldLink RX0 62 (TX2 12).1 (TX2 12).2.1 (TX2 12).2.2.1 ∈ tb := tb_at 398 (by decide +kernel)
theorem mlX0_55 : Cond.methodLink RX0 55 yX0_admit ∈ tb := tb_at 1315 (by decide +kernel)
theorem kmV_X0_admit : KmV yX0_admit cX0_admit 3 none 1 := ⟨tb_at (w := Cond.code yX0_admit cX0_admit 3 none) 1318 (by decide +kernel), tb_at (w := Cond.initialized yX0_admit.cls) 164 (by decide +kernel), tb_at (w := Cond.instanceMethod yX0_admit) 1317 (by decide +kernel), tb_at (w := Cond.selects yX0_admit.cls yX0_admit yX0_admit) 53 (by decide +kernel), ⟨by decide +kernel, by decide +kernel, by decide +kernel⟩⟩
theorem flX0_36 : Cond.fieldLink RX0 36 (TX2 1).1 (TX2 1).2.1 (TX2 1).2.2.1 ∈ tb := tb_at 359 (by decide +kernel)
theorem flX0_42 : Cond.fieldLink RX0 42 (TX3 0).1 (TX3 0).2.1 (TX3 0).2.2.1 ∈ tb := tb_at 249 (by decide +kernel)
theorem mlX0_47 : Cond.methodLink RX0 47 yX4_isIn ∈ tb := tb_at 1314 (by decide +kernel)
theorem flX0_51 : Cond.fieldLink RX0 51 (TX3 5).1 (TX3 5).2.1 (TX3 5).2.2.1 ∈ tb := tb_at 270 (by decide +kernel)
theorem flX0_27 : Cond.fieldLink RX0 27 (TX4 0).1 (TX4 0).2.1 (TX4 0).2.2.1 ∈ tb := tb_at 582 (by decide +kernel)
theorem mlX0_33 : Cond.methodLink RX0 33 yX0_begin ∈ tb := tb_at 1306 (by decide +kernel)
theorem kmV_X0_begin : KmV yX0_begin cX0_begin 1 none 0 := ⟨tb_at (w := Cond.code yX0_begin cX0_begin 1 none) 1309 (by decide +kernel), tb_at (w := Cond.initialized RX0) 164 (by decide +kernel), tb_at (w := Cond.instanceMethod yX0_begin) 1308 (by decide +kernel), tb_at (w := Cond.selects yX0_begin.cls yX0_begin yX0_begin) 52 (by decide +kernel), ⟨by decide +kernel, by decide +kernel, by decide +kernel⟩⟩
theorem mlX0_73 : Cond.methodLink RX0 73 yX0_above ∈ tb := tb_at 1341 (by decide +kernel)
theorem kmV_X0_above : KmV yX0_above cX0_above 5 (some .long) 1 := ⟨tb_at (w := Cond.code yX0_above cX0_above 5 (some .long)) 1323 (by decide +kernel), tb_at (w := Cond.initialized RX0) 164 (by decide +kernel), tb_at (w := Cond.instanceMethod yX0_above) 1321 (by decide +kernel), tb_at (w := Cond.selects yX0_above.cls yX0_above yX0_above) 1322 (by decide +kernel), ⟨by decide +kernel, by decide +kernel, by decide +kernel⟩⟩
theorem clX0_77 : Cond.constantLong RX0 77 10000000000 ∈ tb := tb_at 1342 (by decide +kernel)
theorem flX5_33 : Cond.fieldLink RX5 33 (TX5 8).1 (TX5 8).2.1 (TX5 8).2.2.1 ∈ tb := tb_at 512 (by decide +kernel)
theorem flX5_18 : Cond.fieldLink RX5 18 (TX5 3).1 (TX5 3).2.1 (TX5 3).2.2.1 ∈ tb := tb_at 502 (by decide +kernel)
theorem mlX5_73 : Cond.methodLink RX5 73 yX5_failAt ∈ tb := tb_at 771 (by decide +kernel)
theorem kmV_X5_failAt : KmV yX5_failAt cX5_failAt 3 none 2 := ⟨tb_at (w := Cond.code yX5_failAt cX5_failAt 3 none) 774 (by decide +kernel), tb_at (w := Cond.initialized RX5) 154 (by decide +kernel), tb_at (w := Cond.instanceMethod yX5_failAt) 773 (by decide +kernel), tb_at (w := Cond.selects yX5_failAt.cls yX5_failAt yX5_failAt) 3 (by decide +kernel), ⟨by decide +kernel, by decide +kernel, by decide +kernel⟩⟩
theorem flX10_15 : Cond.fieldLink RX10 15 (TX10 0).1 (TX10 0).2.1 (TX10 0).2.2.1 ∈ tb := tb_at 554 (by decide +kernel)
theorem mlX10_213 : Cond.methodLink RX10 213 yX5_isName ∈ tb := tb_at 805 (by decide +kernel)
theorem kmV_X5_isName : KmV yX5_isName cX5_isName 1 (some .boolean) 0 := ⟨tb_at (w := Cond.code yX5_isName cX5_isName 1 (some .boolean)) 808 (by decide +kernel), tb_at (w := Cond.initialized RX5) 154 (by decide +kernel), tb_at (w := Cond.instanceMethod yX5_isName) 806 (by decide +kernel), tb_at (w := Cond.selects yX5_isName.cls yX5_isName yX5_isName) 807 (by decide +kernel), ⟨by decide +kernel, by decide +kernel, by decide +kernel⟩⟩
theorem mlX10_97 : Cond.methodLink RX10 97 yX5_fail ∈ tb := tb_at 799 (by decide +kernel)
theorem kmV_X5_fail : KmV yX5_fail cX5_fail 2 none 1 := ⟨tb_at (w := Cond.code yX5_fail cX5_fail 2 none) 770 (by decide +kernel), tb_at (w := Cond.initialized RX5) 154 (by decide +kernel), tb_at (w := Cond.instanceMethod yX5_fail) 768 (by decide +kernel), tb_at (w := Cond.selects yX5_fail.cls yX5_fail yX5_fail) 769 (by decide +kernel), ⟨by decide +kernel, by decide +kernel, by decide +kernel⟩⟩
theorem flX10_19 : Cond.fieldLink RX10 19 (TX10 2).1 (TX10 2).2.1 (TX10 2).2.2.1 ∈ tb := tb_at 557 (by decide +kernel)
theorem flX10_185 : Cond.fieldLink RX10 185 (TX5 5).1 (TX5 5).2.1 (TX5 5).2.2.1 ∈ tb := tb_at 506 (by decide +kernel)
theorem mlX10_220 : Cond.methodLink RX10 220 yX2_findPerson ∈ tb := tb_at 882 (by decide +kernel)
theorem mlX10_191 : Cond.methodLink RX10 191 yX10_askName ∈ tb := tb_at 862 (by decide +kernel)
theorem kmV_X10_askName : KmV yX10_askName cX10_askName 2 (some .int) 1 := ⟨tb_at (w := Cond.code yX10_askName cX10_askName 2 (some .int)) 865 (by decide +kernel), tb_at (w := Cond.initialized RX10) 153 (by decide +kernel), tb_at (w := Cond.instanceMethod yX10_askName) 864 (by decide +kernel), tb_at (w := Cond.selects yX10_askName.cls yX10_askName yX10_askName) 13 (by decide +kernel), ⟨by decide +kernel, by decide +kernel, by decide +kernel⟩⟩
theorem flX1_9 : Cond.fieldLink RX1 9 (TX1 0).1 (TX1 0).2.1 (TX1 0).2.2.1 ∈ tb := tb_at 189 (by decide +kernel)
theorem flX1_15 : Cond.fieldLink RX1 15 (TX1 1).1 (TX1 1).2.1 (TX1 1).2.2.1 ∈ tb := tb_at 194 (by decide +kernel)
theorem flX1_18 : Cond.fieldLink RX1 18 (TX1 2).1 (TX1 2).2.1 (TX1 2).2.2.1 ∈ tb := tb_at 198 (by decide +kernel)
theorem flX7_9 : Cond.fieldLink RX7 9 (TX7 0).1 (TX7 0).2.1 (TX7 0).2.2.1 ∈ tb := tb_at 322 (by decide +kernel)
theorem flX7_15 : Cond.fieldLink RX7 15 (TX7 1).1 (TX7 1).2.1 (TX7 1).2.2.1 ∈ tb := tb_at 326 (by decide +kernel)
theorem flX2_59 : Cond.fieldLink RX2 59 (TX2 11).1 (TX2 11).2.1 (TX2 11).2.2.1 ∈ tb := tb_at 393 (by decide +kernel)
theorem flX2_62 : Cond.fieldLink RX2 62 (TX2 12).1 (TX2 12).2.1 (TX2 12).2.2.1 ∈ tb := tb_at 397 (by decide +kernel)
theorem mlX2_68 : Cond.methodLink RX2 68 yX1_clear ∈ tb := tb_at 732 (by decide +kernel)
theorem kmV_X1_clear : KmV yX1_clear cX1_clear 1 none 0 := ⟨tb_at (w := Cond.code yX1_clear cX1_clear 1 none) 735 (by decide +kernel), tb_at (w := Cond.initialized RX1) 150 (by decide +kernel), tb_at (w := Cond.instanceMethod yX1_clear) 733 (by decide +kernel), tb_at (w := Cond.selects yX1_clear.cls yX1_clear yX1_clear) 734 (by decide +kernel), ⟨by decide +kernel, by decide +kernel, by decide +kernel⟩⟩
theorem flX2_28 : Cond.fieldLink RX2 28 (TX2 2).1 (TX2 2).2.1 (TX2 2).2.2.1 ∈ tb := tb_at 363 (by decide +kernel)
theorem mlX2_74 : Cond.methodLink RX2 74 yX7_clear ∈ tb := tb_at 736 (by decide +kernel)
theorem kmV_X7_clear : KmV yX7_clear cX7_clear 1 none 0 := ⟨tb_at (w := Cond.code yX7_clear cX7_clear 1 none) 739 (by decide +kernel), tb_at (w := Cond.initialized RX7) 152 (by decide +kernel), tb_at (w := Cond.instanceMethod yX7_clear) 737 (by decide +kernel), tb_at (w := Cond.selects yX7_clear.cls yX7_clear yX7_clear) 738 (by decide +kernel), ⟨by decide +kernel, by decide +kernel, by decide +kernel⟩⟩
theorem flX2_65 : Cond.fieldLink RX2 65 (TX2 13).1 (TX2 13).2.1 (TX2 13).2.2.1 ∈ tb := tb_at 401 (by decide +kernel)
theorem flX5_15 : Cond.fieldLink RX5 15 (TX5 2).1 (TX5 2).2.1 (TX5 2).2.2.1 ∈ tb := tb_at 501 (by decide +kernel)
theorem flX5_9 : Cond.fieldLink RX5 9 (TX5 1).1 (TX5 1).2.1 (TX5 1).2.2.1 ∈ tb := tb_at 500 (by decide +kernel)
theorem flX5_40 : Cond.fieldLink RX5 40 (TX5 0).1 (TX5 0).2.1 (TX5 0).2.2.1 ∈ tb := tb_at 499 (by decide +kernel)
theorem mlX5_95 : Cond.methodLink RX5 95 yX5_isDigit ∈ tb := tb_at 764 (by decide +kernel)
theorem kmS_X5_isDigit : KmS yX5_isDigit cX5_isDigit 1 (some .boolean) 1 := ⟨tb_at (w := Cond.code yX5_isDigit cX5_isDigit 1 (some .boolean)) 766 (by decide +kernel), tb_at (w := Cond.initialized RX5) 154 (by decide +kernel), tb_at (w := Cond.static yX5_isDigit) 765 (by decide +kernel), ⟨by decide +kernel, by decide +kernel, by decide +kernel⟩⟩
theorem flX5_36 : Cond.fieldLink RX5 36 (TX5 9).1 (TX5 9).2.1 (TX5 9).2.2.1 ∈ tb := tb_at 514 (by decide +kernel)
theorem mlX5_92 : Cond.methodLink RX5 92 yX5_isLetter ∈ tb := tb_at 761 (by decide +kernel)
theorem kmS_X5_isLetter : KmS yX5_isLetter cX5_isLetter 1 (some .boolean) 1 := ⟨tb_at (w := Cond.code yX5_isLetter cX5_isLetter 1 (some .boolean)) 763 (by decide +kernel), tb_at (w := Cond.initialized RX5) 154 (by decide +kernel), tb_at (w := Cond.static yX5_isLetter) 762 (by decide +kernel), ⟨by decide +kernel, by decide +kernel, by decide +kernel⟩⟩
theorem mlX5_58 : Cond.methodLink RX5 58 yX5_withLetter ∈ tb := tb_at 496 (by decide +kernel)
theorem kmS_X5_withLetter : KmS yX5_withLetter cX5_withLetter 2 (some .int) 2 := ⟨tb_at (w := Cond.code yX5_withLetter cX5_withLetter 2 (some .int)) 498 (by decide +kernel), tb_at (w := Cond.initialized RX5) 154 (by decide +kernel), tb_at (w := Cond.static yX5_withLetter) 497 (by decide +kernel), ⟨by decide +kernel, by decide +kernel, by decide +kernel⟩⟩
theorem mlX5_81 : Cond.methodLink RX5 81 yX5_fail ∈ tb := tb_at 767 (by decide +kernel)
theorem mlX5_101 : Cond.methodLink RX5 101 yX5_takeDigits ∈ tb := tb_at 779 (by decide +kernel)
theorem kmV_X5_takeDigits : KmV yX5_takeDigits cX5_takeDigits 2 none 0 := ⟨tb_at (w := Cond.code yX5_takeDigits cX5_takeDigits 2 none) 782 (by decide +kernel), tb_at (w := Cond.initialized RX5) 154 (by decide +kernel), tb_at (w := Cond.instanceMethod yX5_takeDigits) 781 (by decide +kernel), tb_at (w := Cond.selects yX5_takeDigits.cls yX5_takeDigits yX5_takeDigits) 5 (by decide +kernel), ⟨by decide +kernel, by decide +kernel, by decide +kernel⟩⟩
theorem mlX5_98 : Cond.methodLink RX5 98 yX5_takeLetters ∈ tb := tb_at 775 (by decide +kernel)
theorem kmV_X5_takeLetters : KmV yX5_takeLetters cX5_takeLetters 3 none 0 := ⟨tb_at (w := Cond.code yX5_takeLetters cX5_takeLetters 3 none) 778 (by decide +kernel), tb_at (w := Cond.initialized RX5) 154 (by decide +kernel), tb_at (w := Cond.instanceMethod yX5_takeLetters) 777 (by decide +kernel), tb_at (w := Cond.selects yX5_takeLetters.cls yX5_takeLetters yX5_takeLetters) 4 (by decide +kernel), ⟨by decide +kernel, by decide +kernel, by decide +kernel⟩⟩
theorem mlX5_89 : Cond.methodLink RX5 89 yX5_isBlank ∈ tb := tb_at 758 (by decide +kernel)
theorem kmS_X5_isBlank : KmS yX5_isBlank cX5_isBlank 1 (some .boolean) 1 := ⟨tb_at (w := Cond.code yX5_isBlank cX5_isBlank 1 (some .boolean)) 760 (by decide +kernel), tb_at (w := Cond.initialized RX5) 154 (by decide +kernel), tb_at (w := Cond.static yX5_isBlank) 759 (by decide +kernel), ⟨by decide +kernel, by decide +kernel, by decide +kernel⟩⟩
theorem mlX5_85 : Cond.methodLink RX5 85 yX5_isFailed ∈ tb := tb_at 754 (by decide +kernel)
theorem kmV_X5_isFailed : KmV yX5_isFailed cX5_isFailed 1 (some .boolean) 0 := ⟨tb_at (w := Cond.code yX5_isFailed cX5_isFailed 1 (some .boolean)) 757 (by decide +kernel), tb_at (w := Cond.initialized RX5) 154 (by decide +kernel), tb_at (w := Cond.instanceMethod yX5_isFailed) 755 (by decide +kernel), tb_at (w := Cond.selects yX5_isFailed.cls yX5_isFailed yX5_isFailed) 756 (by decide +kernel), ⟨by decide +kernel, by decide +kernel, by decide +kernel⟩⟩
theorem mmX5_min : Cond.methodLink RX5 62 Lib.Math.min.name ∈ tb := tb_at 744 (by decide +kernel)
theorem mmX5_max : Cond.methodLink RX5 67 Lib.Math.max.name ∈ tb := tb_at 747 (by decide +kernel)
theorem mlX5_70 : Cond.methodLink RX5 70 yX5_take ∈ tb := tb_at 750 (by decide +kernel)
theorem kmV_X5_take : KmV yX5_take cX5_take 4 none 0 := ⟨tb_at (w := Cond.code yX5_take cX5_take 4 none) 753 (by decide +kernel), tb_at (w := Cond.initialized RX5) 154 (by decide +kernel), tb_at (w := Cond.instanceMethod yX5_take) 751 (by decide +kernel), tb_at (w := Cond.selects yX5_take.cls yX5_take yX5_take) 752 (by decide +kernel), ⟨by decide +kernel, by decide +kernel, by decide +kernel⟩⟩
theorem mlX10_38 : Cond.methodLink RX10 38 yX2_clear ∈ tb := tb_at 728 (by decide +kernel)
theorem kmV_X2_clear : KmV yX2_clear cX2_clear 2 none 0 := ⟨tb_at (w := Cond.code yX2_clear cX2_clear 2 none) 731 (by decide +kernel), tb_at (w := Cond.initialized RX2) 149 (by decide +kernel), tb_at (w := Cond.instanceMethod yX2_clear) 729 (by decide +kernel), tb_at (w := Cond.selects yX2_clear.cls yX2_clear yX2_clear) 730 (by decide +kernel), ⟨by decide +kernel, by decide +kernel, by decide +kernel⟩⟩
theorem flX10_9 : Cond.fieldLink RX10 9 (TX10 3).1 (TX10 3).2.1 (TX10 3).2.2.1 ∈ tb := tb_at 558 (by decide +kernel)
theorem mlX10_41 : Cond.methodLink RX10 41 yX5_begin ∈ tb := tb_at 740 (by decide +kernel)
theorem kmV_X5_begin : KmV yX5_begin cX5_begin 2 none 1 := ⟨tb_at (w := Cond.code yX5_begin cX5_begin 2 none) 743 (by decide +kernel), tb_at (w := Cond.initialized RX5) 154 (by decide +kernel), tb_at (w := Cond.instanceMethod yX5_begin) 741 (by decide +kernel), tb_at (w := Cond.selects yX5_begin.cls yX5_begin yX5_begin) 742 (by decide +kernel), ⟨by decide +kernel, by decide +kernel, by decide +kernel⟩⟩
theorem mlX10_148 : Cond.methodLink RX10 148 yX5_take ∈ tb := tb_at 800 (by decide +kernel)
theorem flX10_47 : Cond.fieldLink RX10 47 (TX5 6).1 (TX5 6).2.1 (TX5 6).2.2.1 ∈ tb := tb_at 508 (by decide +kernel)
theorem mlX10_167 : Cond.methodLink RX10 167 yX10_askPerson ∈ tb := tb_at 878 (by decide +kernel)
theorem kmV_X10_askPerson : KmV yX10_askPerson cX10_askPerson 1 (some .int) 0 := ⟨tb_at (w := Cond.code yX10_askPerson cX10_askPerson 1 (some .int)) 881 (by decide +kernel), tb_at (w := Cond.initialized RX10) 153 (by decide +kernel), tb_at (w := Cond.instanceMethod yX10_askPerson) 880 (by decide +kernel), tb_at (w := Cond.selects yX10_askPerson.cls yX10_askPerson yX10_askPerson) 16 (by decide +kernel), ⟨by decide +kernel, by decide +kernel, by decide +kernel⟩⟩
theorem mlX10_151 : Cond.methodLink RX10 151 yX10_takePerson ∈ tb := tb_at 874 (by decide +kernel)
theorem kmV_X10_takePerson : KmV yX10_takePerson cX10_takePerson 2 (some .int) 0 := ⟨tb_at (w := Cond.code yX10_takePerson cX10_takePerson 2 (some .int)) 877 (by decide +kernel), tb_at (w := Cond.initialized RX10) 153 (by decide +kernel), tb_at (w := Cond.instanceMethod yX10_takePerson) 876 (by decide +kernel), tb_at (w := Cond.selects yX10_takePerson.cls yX10_takePerson yX10_takePerson) 15 (by decide +kernel), ⟨by decide +kernel, by decide +kernel, by decide +kernel⟩⟩
theorem mlX10_154 : Cond.methodLink RX10 154 yX10_takeDay ∈ tb := tb_at 883 (by decide +kernel)
theorem kmV_X10_takeDay : KmV yX10_takeDay cX10_takeDay 2 (some .int) 0 := ⟨tb_at (w := Cond.code yX10_takeDay cX10_takeDay 2 (some .int)) 886 (by decide +kernel), tb_at (w := Cond.initialized RX10) 153 (by decide +kernel), tb_at (w := Cond.instanceMethod yX10_takeDay) 885 (by decide +kernel), tb_at (w := Cond.selects yX10_takeDay.cls yX10_takeDay yX10_takeDay) 17 (by decide +kernel), ⟨by decide +kernel, by decide +kernel, by decide +kernel⟩⟩
theorem mlX10_121 : Cond.methodLink RX10 121 yX5_isFailed ∈ tb := tb_at 840 (by decide +kernel)
theorem flX10_135 : Cond.fieldLink RX10 135 (TX2 1).1 (TX2 1).2.1 (TX2 1).2.2.1 ∈ tb := tb_at 360 (by decide +kernel)
theorem flX10_157 : Cond.fieldLink RX10 157 (TX3 4).1 (TX3 4).2.1 (TX3 4).2.2.1 ∈ tb := tb_at 265 (by decide +kernel)
theorem mlX10_229 : Cond.methodLink RX10 229 yX5_isNumber ∈ tb := tb_at 836 (by decide +kernel)
theorem kmV_X5_isNumber : KmV yX5_isNumber cX5_isNumber 1 (some .boolean) 0 := ⟨tb_at (w := Cond.code yX5_isNumber cX5_isNumber 1 (some .boolean)) 839 (by decide +kernel), tb_at (w := Cond.initialized RX5) 154 (by decide +kernel), tb_at (w := Cond.instanceMethod yX5_isNumber) 837 (by decide +kernel), tb_at (w := Cond.selects yX5_isNumber.cls yX5_isNumber yX5_isNumber) 838 (by decide +kernel), ⟨by decide +kernel, by decide +kernel, by decide +kernel⟩⟩
theorem mlX10_117 : Cond.methodLink RX10 117 yX10_takeNumber ∈ tb := tb_at 832 (by decide +kernel)
theorem kmV_X10_takeNumber : KmV yX10_takeNumber cX10_takeNumber 3 (some .int) 1 := ⟨tb_at (w := Cond.code yX10_takeNumber cX10_takeNumber 3 (some .int)) 835 (by decide +kernel), tb_at (w := Cond.initialized RX10) 153 (by decide +kernel), tb_at (w := Cond.instanceMethod yX10_takeNumber) 834 (by decide +kernel), tb_at (w := Cond.selects yX10_takeNumber.cls yX10_takeNumber yX10_takeNumber) 9 (by decide +kernel), ⟨by decide +kernel, by decide +kernel, by decide +kernel⟩⟩
theorem flX10_173 : Cond.fieldLink RX10 173 (TX3 5).1 (TX3 5).2.1 (TX3 5).2.2.1 ∈ tb := tb_at 271 (by decide +kernel)
theorem mlX10_216 : Cond.methodLink RX10 216 yX2_isNamed ∈ tb := tb_at 809 (by decide +kernel)
theorem kmV_X2_isNamed : KmV yX2_isNamed cX2_isNamed 2 (some .boolean) 1 := ⟨tb_at (w := Cond.code yX2_isNamed cX2_isNamed 2 (some .boolean)) 812 (by decide +kernel), tb_at (w := Cond.initialized RX2) 149 (by decide +kernel), tb_at (w := Cond.instanceMethod yX2_isNamed) 810 (by decide +kernel), tb_at (w := Cond.selects yX2_isNamed.cls yX2_isNamed yX2_isNamed) 811 (by decide +kernel), ⟨by decide +kernel, by decide +kernel, by decide +kernel⟩⟩
theorem flX1_21 : Cond.fieldLink RX1 21 (TX1 3).1 (TX1 3).2.1 (TX1 3).2.2.1 ∈ tb := tb_at 203 (by decide +kernel)
theorem flX1_25 : Cond.fieldLink RX1 25 (TX1 4).1 (TX1 4).2.1 (TX1 4).2.2.1 ∈ tb := tb_at 206 (by decide +kernel)
theorem flX1_28 : Cond.fieldLink RX1 28 (TX1 5).1 (TX1 5).2.1 (TX1 5).2.2.1 ∈ tb := tb_at 210 (by decide +kernel)
theorem flX1_31 : Cond.fieldLink RX1 31 (TX1 6).1 (TX1 6).2.1 (TX1 6).2.2.1 ∈ tb := tb_at 213 (by decide +kernel)
theorem flX1_34 : Cond.fieldLink RX1 34 (TX1 7).1 (TX1 7).2.1 (TX1 7).2.2.1 ∈ tb := tb_at 216 (by decide +kernel)
theorem flX10_103 : Cond.fieldLink RX10 103 (TX2 0).1 (TX2 0).2.1 (TX2 0).2.2.1 ∈ tb := tb_at 352 (by decide +kernel)
theorem flX10_107 : Cond.fieldLink RX10 107 (TX1 0).1 (TX1 0).2.1 (TX1 0).2.2.1 ∈ tb := tb_at 191 (by decide +kernel)
theorem mlX10_89 : Cond.methodLink RX10 89 yX10_beginOneOf ∈ tb := tb_at 795 (by decide +kernel)
theorem kmV_X10_beginOneOf : KmV yX10_beginOneOf cX10_beginOneOf 3 none 2 := ⟨tb_at (w := Cond.code yX10_beginOneOf cX10_beginOneOf 3 none) 798 (by decide +kernel), tb_at (w := Cond.initialized RX10) 153 (by decide +kernel), tb_at (w := Cond.instanceMethod yX10_beginOneOf) 797 (by decide +kernel), tb_at (w := Cond.selects yX10_beginOneOf.cls yX10_beginOneOf yX10_beginOneOf) 7 (by decide +kernel), ⟨by decide +kernel, by decide +kernel, by decide +kernel⟩⟩
theorem mlX10_110 : Cond.methodLink RX10 110 yX10_takeNewName ∈ tb := tb_at 801 (by decide +kernel)
theorem kmV_X10_takeNewName : KmV yX10_takeNewName cX10_takeNewName 2 (some .int) 0 := ⟨tb_at (w := Cond.code yX10_takeNewName cX10_takeNewName 2 (some .int)) 804 (by decide +kernel), tb_at (w := Cond.initialized RX10) 153 (by decide +kernel), tb_at (w := Cond.instanceMethod yX10_takeNewName) 803 (by decide +kernel), tb_at (w := Cond.selects yX10_takeNewName.cls yX10_takeNewName yX10_takeNewName) 8 (by decide +kernel), ⟨by decide +kernel, by decide +kernel, by decide +kernel⟩⟩
theorem mlX10_114 : Cond.methodLink RX10 114 yX5_takeOwnWord ∈ tb := tb_at 828 (by decide +kernel)
theorem kmV_X5_takeOwnWord : KmV yX5_takeOwnWord cX5_takeOwnWord 2 none 1 := ⟨tb_at (w := Cond.code yX5_takeOwnWord cX5_takeOwnWord 2 none) 831 (by decide +kernel), tb_at (w := Cond.initialized RX5) 154 (by decide +kernel), tb_at (w := Cond.instanceMethod yX5_takeOwnWord) 829 (by decide +kernel), tb_at (w := Cond.selects yX5_takeOwnWord.cls yX5_takeOwnWord yX5_takeOwnWord) 830 (by decide +kernel), ⟨by decide +kernel, by decide +kernel, by decide +kernel⟩⟩
theorem mlX10_125 : Cond.methodLink RX10 125 yX1_add ∈ tb := tb_at 841 (by decide +kernel)
theorem kmV_X1_add : KmV yX1_add cX1_add 5 none 4 := ⟨tb_at (w := Cond.code yX1_add cX1_add 5 none) 844 (by decide +kernel), tb_at (w := Cond.initialized RX1) 150 (by decide +kernel), tb_at (w := Cond.instanceMethod yX1_add) 842 (by decide +kernel), tb_at (w := Cond.selects yX1_add.cls yX1_add yX1_add) 843 (by decide +kernel), ⟨by decide +kernel, by decide +kernel, by decide +kernel⟩⟩
theorem flX10_161 : Cond.fieldLink RX10 161 (TX3 8).1 (TX3 8).2.1 (TX3 8).2.2.1 ∈ tb := tb_at 284 (by decide +kernel)
theorem mlX10_223 : Cond.methodLink RX10 223 yX2_findTeam ∈ tb := tb_at 861 (by decide +kernel)
theorem mlX10_142 : Cond.methodLink RX10 142 yX10_takeTeam ∈ tb := tb_at 857 (by decide +kernel)
theorem kmV_X10_takeTeam : KmV yX10_takeTeam cX10_takeTeam 2 (some .int) 0 := ⟨tb_at (w := Cond.code yX10_takeTeam cX10_takeTeam 2 (some .int)) 860 (by decide +kernel), tb_at (w := Cond.initialized RX10) 153 (by decide +kernel), tb_at (w := Cond.instanceMethod yX10_takeTeam) 859 (by decide +kernel), tb_at (w := Cond.selects yX10_takeTeam.cls yX10_takeTeam yX10_takeTeam) 12 (by decide +kernel), ⟨by decide +kernel, by decide +kernel, by decide +kernel⟩⟩
theorem flX10_203 : Cond.fieldLink RX10 203 (TX2 5).1 (TX2 5).2.1 (TX2 5).2.2.1 ∈ tb := tb_at 375 (by decide +kernel)
theorem flX10_182 : Cond.fieldLink RX10 182 (TX3 6).1 (TX3 6).2.1 (TX3 6).2.2.1 ∈ tb := tb_at 278 (by decide +kernel)
theorem flX10_194 : Cond.fieldLink RX10 194 (TX1 7).1 (TX1 7).2.1 (TX1 7).2.2.1 ∈ tb := tb_at 219 (by decide +kernel)
theorem flX10_200 : Cond.fieldLink RX10 200 (TX1 2).1 (TX1 2).2.1 (TX1 2).2.2.1 ∈ tb := tb_at 202 (by decide +kernel)
theorem mlX10_188 : Cond.methodLink RX10 188 yX2_findFloor ∈ tb := tb_at 917 (by decide +kernel)
theorem flX10_197 : Cond.fieldLink RX10 197 (TX1 4).1 (TX1 4).2.1 (TX1 4).2.2.1 ∈ tb := tb_at 209 (by decide +kernel)
theorem flX3_9 : Cond.fieldLink RX3 9 (TX3 0).1 (TX3 0).2.1 (TX3 0).2.2.1 ∈ tb := tb_at 244 (by decide +kernel)
theorem flX3_37 : Cond.fieldLink RX3 37 (TX3 8).1 (TX3 8).2.1 (TX3 8).2.2.1 ∈ tb := tb_at 283 (by decide +kernel)
theorem flX3_15 : Cond.fieldLink RX3 15 (TX3 1).1 (TX3 1).2.1 (TX3 1).2.2.1 ∈ tb := tb_at 252 (by decide +kernel)
theorem flX3_19 : Cond.fieldLink RX3 19 (TX3 2).1 (TX3 2).2.1 (TX3 2).2.2.1 ∈ tb := tb_at 255 (by decide +kernel)
theorem flX3_28 : Cond.fieldLink RX3 28 (TX3 5).1 (TX3 5).2.1 (TX3 5).2.2.1 ∈ tb := tb_at 269 (by decide +kernel)
theorem flX3_31 : Cond.fieldLink RX3 31 (TX3 6).1 (TX3 6).2.1 (TX3 6).2.2.1 ∈ tb := tb_at 273 (by decide +kernel)
theorem flX3_34 : Cond.fieldLink RX3 34 (TX3 7).1 (TX3 7).2.1 (TX3 7).2.2.1 ∈ tb := tb_at 279 (by decide +kernel)
theorem flX10_139 : Cond.fieldLink RX10 139 (TX3 0).1 (TX3 0).2.1 (TX3 0).2.2.1 ∈ tb := tb_at 250 (by decide +kernel)
theorem mlX10_145 : Cond.methodLink RX10 145 yX3_add ∈ tb := tb_at 866 (by decide +kernel)
theorem kmV_X3_add : KmV yX3_add cX3_add 5 none 3 := ⟨tb_at (w := Cond.code yX3_add cX3_add 5 none) 869 (by decide +kernel), tb_at (w := Cond.initialized RX3) 151 (by decide +kernel), tb_at (w := Cond.instanceMethod yX3_add) 867 (by decide +kernel), tb_at (w := Cond.selects yX3_add.cls yX3_add yX3_add) 868 (by decide +kernel), ⟨by decide +kernel, by decide +kernel, by decide +kernel⟩⟩
theorem flX10_210 : Cond.fieldLink RX10 210 (TX2 13).1 (TX2 13).2.1 (TX2 13).2.2.1 ∈ tb := tb_at 403 (by decide +kernel)
theorem flX10_129 : Cond.fieldLink RX10 129 (TX2 3).1 (TX2 3).2.1 (TX2 3).2.2.1 ∈ tb := tb_at 367 (by decide +kernel)
theorem mlX10_132 : Cond.methodLink RX10 132 yX2_addTeam ∈ tb := tb_at 849 (by decide +kernel)
theorem kmV_X2_addTeam : KmV yX2_addTeam cX2_addTeam 2 none 1 := ⟨tb_at (w := Cond.code yX2_addTeam cX2_addTeam 2 none) 852 (by decide +kernel), tb_at (w := Cond.initialized RX2) 149 (by decide +kernel), tb_at (w := Cond.instanceMethod yX2_addTeam) 850 (by decide +kernel), tb_at (w := Cond.selects yX2_addTeam.cls yX2_addTeam yX2_addTeam) 851 (by decide +kernel), ⟨by decide +kernel, by decide +kernel, by decide +kernel⟩⟩
theorem mlX10_170 : Cond.methodLink RX10 170 yX2_addTie ∈ tb := tb_at 901 (by decide +kernel)
theorem kmV_X2_addTie : KmV yX2_addTie cX2_addTie 4 none 3 := ⟨tb_at (w := Cond.code yX2_addTie cX2_addTie 4 none) 904 (by decide +kernel), tb_at (w := Cond.initialized RX2) 149 (by decide +kernel), tb_at (w := Cond.instanceMethod yX2_addTie) 902 (by decide +kernel), tb_at (w := Cond.selects yX2_addTie.cls yX2_addTie yX2_addTie) 903 (by decide +kernel), ⟨by decide +kernel, by decide +kernel, by decide +kernel⟩⟩
theorem flX10_164 : Cond.fieldLink RX10 164 (TX2 7).1 (TX2 7).2.1 (TX2 7).2.2.1 ∈ tb := tb_at 382 (by decide +kernel)
theorem flX10_207 : Cond.fieldLink RX10 207 (TX3 7).1 (TX3 7).2.1 (TX3 7).2.2.1 ∈ tb := tb_at 281 (by decide +kernel)
theorem flX10_176 : Cond.fieldLink RX10 176 (TX2 11).1 (TX2 11).2.1 (TX2 11).2.2.1 ∈ tb := tb_at 395 (by decide +kernel)
theorem flX10_179 : Cond.fieldLink RX10 179 (TX2 12).1 (TX2 12).2.1 (TX2 12).2.2.1 ∈ tb := tb_at 399 (by decide +kernel)
theorem mlX5_77 : Cond.methodLink RX5 77 yX5_isSign ∈ tb := tb_at 978 (by decide +kernel)
theorem flX7_18 : Cond.fieldLink RX7 18 (TX7 2).1 (TX7 2).2.1 (TX7 2).2.2.1 ∈ tb := tb_at 327 (by decide +kernel)
theorem flX6_15 : Cond.fieldLink RX6 15 (TX6 1).1 (TX6 1).2.1 (TX6 1).2.2.1 ∈ tb := tb_at 548 (by decide +kernel)
theorem mlX6_52 : Cond.methodLink RX6 52 yX7_addStep ∈ tb := tb_at 955 (by decide +kernel)
theorem kmV_X7_addStep : KmV yX7_addStep cX7_addStep 3 none 2 := ⟨tb_at (w := Cond.code yX7_addStep cX7_addStep 3 none) 958 (by decide +kernel), tb_at (w := Cond.initialized RX7) 152 (by decide +kernel), tb_at (w := Cond.instanceMethod yX7_addStep) 956 (by decide +kernel), tb_at (w := Cond.selects yX7_addStep.cls yX7_addStep yX7_addStep) 957 (by decide +kernel), ⟨by decide +kernel, by decide +kernel, by decide +kernel⟩⟩
theorem mlX6_49 : Cond.methodLink RX6 49 yX5_take ∈ tb := tb_at 959 (by decide +kernel)
theorem mlX6_99 : Cond.methodLink RX6 99 yX5_isFailed ∈ tb := tb_at 973 (by decide +kernel)
theorem mlX6_77 : Cond.methodLink RX6 77 yX5_fail ∈ tb := tb_at 972 (by decide +kernel)
theorem flX7_22 : Cond.fieldLink RX7 22 (TX7 3).1 (TX7 3).2.1 (TX7 3).2.2.1 ∈ tb := tb_at 328 (by decide +kernel)
theorem flX7_25 : Cond.fieldLink RX7 25 (TX7 4).1 (TX7 4).2.1 (TX7 4).2.2.1 ∈ tb := tb_at 329 (by decide +kernel)
theorem flX7_28 : Cond.fieldLink RX7 28 (TX7 5).1 (TX7 5).2.1 (TX7 5).2.2.1 ∈ tb := tb_at 330 (by decide +kernel)
theorem mlX4_143 : Cond.methodLink RX4 143 yX4_isIn ∈ tb := tb_at 1148 (by decide +kernel)
theorem flX4_147 : Cond.fieldLink RX4 147 (TX3 8).1 (TX3 8).2.1 (TX3 8).2.2.1 ∈ tb := tb_at 285 (by decide +kernel)
theorem flX4_169 : Cond.fieldLink RX4 169 (TX2 13).1 (TX2 13).2.1 (TX2 13).2.2.1 ∈ tb := tb_at 404 (by decide +kernel)
theorem mlX11_344 : Cond.methodLink RX11 344 yX4_aloneWith ∈ tb := tb_at 1374 (by decide +kernel)
theorem kmV_X4_aloneWith : KmV yX4_aloneWith cX4_aloneWith 6 (some .int) 2 := ⟨tb_at (w := Cond.code yX4_aloneWith cX4_aloneWith 6 (some .int)) 1377 (by decide +kernel), tb_at (w := Cond.initialized RX4) 160 (by decide +kernel), tb_at (w := Cond.instanceMethod yX4_aloneWith) 1375 (by decide +kernel), tb_at (w := Cond.selects yX4_aloneWith.cls yX4_aloneWith yX4_aloneWith) 1376 (by decide +kernel), ⟨by decide +kernel, by decide +kernel, by decide +kernel⟩⟩
theorem flX4_90 : Cond.fieldLink RX4 90 (TX3 4).1 (TX3 4).2.1 (TX3 4).2.2.1 ∈ tb := tb_at 266 (by decide +kernel)
theorem flX4_98 : Cond.fieldLink RX4 98 (TX3 3).1 (TX3 3).2.1 (TX3 3).2.2.1 ∈ tb := tb_at 261 (by decide +kernel)
theorem flX4_107 : Cond.fieldLink RX4 107 (TX2 5).1 (TX2 5).2.1 (TX2 5).2.2.1 ∈ tb := tb_at 374 (by decide +kernel)
theorem flX4_111 : Cond.fieldLink RX4 111 (TX2 6).1 (TX2 6).2.1 (TX2 6).2.2.1 ∈ tb := tb_at 378 (by decide +kernel)
theorem mlX4_114 : Cond.methodLink RX4 114 yX4_commonDays ∈ tb := tb_at 1130 (by decide +kernel)
theorem flX7_34 : Cond.fieldLink RX7 34 (TX7 7).1 (TX7 7).2.1 (TX7 7).2.2.1 ∈ tb := tb_at 332 (by decide +kernel)
theorem mlX7_44 : Cond.methodLink RX7 44 yX7_joined ∈ tb := tb_at 1168 (by decide +kernel)
theorem kmS_X7_joined : KmS yX7_joined cX7_joined 3 (some .int) 3 := ⟨tb_at (w := Cond.code yX7_joined cX7_joined 3 (some .int)) 1170 (by decide +kernel), tb_at (w := Cond.initialized RX7) 152 (by decide +kernel), tb_at (w := Cond.static yX7_joined) 1169 (by decide +kernel), ⟨by decide +kernel, by decide +kernel, by decide +kernel⟩⟩
theorem mlX7_41 : Cond.methodLink RX7 41 yX7_given ∈ tb := tb_at 1164 (by decide +kernel)
theorem kmV_X7_given : KmV yX7_given cX7_given 3 (some .int) 2 := ⟨tb_at (w := Cond.code yX7_given cX7_given 3 (some .int)) 1167 (by decide +kernel), tb_at (w := Cond.initialized RX7) 152 (by decide +kernel), tb_at (w := Cond.instanceMethod yX7_given) 1166 (by decide +kernel), tb_at (w := Cond.selects yX7_given.cls yX7_given yX7_given) 46 (by decide +kernel), ⟨by decide +kernel, by decide +kernel, by decide +kernel⟩⟩
theorem mlX7_37 : Cond.methodLink RX7 37 yX7_run ∈ tb := tb_at 1160 (by decide +kernel)
theorem kmV_X7_run : KmV yX7_run cX7_run 6 (some .int) 2 := ⟨tb_at (w := Cond.code yX7_run cX7_run 6 (some .int)) 1163 (by decide +kernel), tb_at (w := Cond.initialized RX7) 152 (by decide +kernel), tb_at (w := Cond.instanceMethod yX7_run) 1162 (by decide +kernel), tb_at (w := Cond.selects yX7_run.cls yX7_run yX7_run) 45 (by decide +kernel), ⟨by decide +kernel, by decide +kernel, by decide +kernel⟩⟩
theorem flX4_25 : Cond.fieldLink RX4 25 (TX4 5).1 (TX4 5).2.1 (TX4 5).2.2.1 ∈ tb := tb_at 593 (by decide +kernel)
theorem flX4_154 : Cond.fieldLink RX4 154 (TX2 2).1 (TX2 2).2.1 (TX2 2).2.2.1 ∈ tb := tb_at 365 (by decide +kernel)
theorem flX4_158 : Cond.fieldLink RX4 158 (TX7 0).1 (TX7 0).2.1 (TX7 0).2.2.1 ∈ tb := tb_at 325 (by decide +kernel)
theorem cnX4_32 : Cond.constant RX4 32 (-2000000) ∈ tb := tb_at 575 (by decide +kernel)
theorem mlX4_161 : Cond.methodLink RX4 161 yX7_firstSum ∈ tb := tb_at 1156 (by decide +kernel)
theorem kmV_X7_firstSum : KmV yX7_firstSum cX7_firstSum 7 (some .int) 5 := ⟨tb_at (w := Cond.code yX7_firstSum cX7_firstSum 7 (some .int)) 1159 (by decide +kernel), tb_at (w := Cond.initialized RX7) 152 (by decide +kernel), tb_at (w := Cond.instanceMethod yX7_firstSum) 1157 (by decide +kernel), tb_at (w := Cond.selects yX7_firstSum.cls yX7_firstSum yX7_firstSum) 1158 (by decide +kernel), ⟨by decide +kernel, by decide +kernel, by decide +kernel⟩⟩
theorem mlX4_150 : Cond.methodLink RX4 150 yX4_ruledSum ∈ tb := tb_at 1152 (by decide +kernel)
theorem kmV_X4_ruledSum : KmV yX4_ruledSum cX4_ruledSum 5 (some .int) 3 := ⟨tb_at (w := Cond.code yX4_ruledSum cX4_ruledSum 5 (some .int)) 1155 (by decide +kernel), tb_at (w := Cond.initialized RX4) 160 (by decide +kernel), tb_at (w := Cond.instanceMethod yX4_ruledSum) 1154 (by decide +kernel), tb_at (w := Cond.selects yX4_ruledSum.cls yX4_ruledSum yX4_ruledSum) 44 (by decide +kernel), ⟨by decide +kernel, by decide +kernel, by decide +kernel⟩⟩
theorem flX9_84 : Cond.fieldLink RX9 84 (TX4 1).1 (TX4 1).2.1 (TX4 1).2.2.1 ∈ tb := tb_at 585 (by decide +kernel)
theorem cnX9_47 : Cond.constant RX9 47 1000000 ∈ tb := tb_at 1195 (by decide +kernel)
theorem flX9_48 : Cond.fieldLink RX9 48 (TX3 0).1 (TX3 0).2.1 (TX3 0).2.2.1 ∈ tb := tb_at 246 (by decide +kernel)
theorem flX9_53 : Cond.fieldLink RX9 53 (TX3 10).1 (TX3 10).2.1 (TX3 10).2.2.1 ∈ tb := tb_at 290 (by decide +kernel)
theorem flX9_60 : Cond.fieldLink RX9 60 (TX3 9).1 (TX3 9).2.1 (TX3 9).2.2.1 ∈ tb := tb_at 287 (by decide +kernel)
theorem mlX9_99 : Cond.methodLink RX9 99 yX4_holds ∈ tb := tb_at 1239 (by decide +kernel)
theorem kmV_X4_holds : KmV yX4_holds cX4_holds 1 (some .boolean) 0 := ⟨tb_at (w := Cond.code yX4_holds cX4_holds 1 (some .boolean)) 1232 (by decide +kernel), tb_at (w := Cond.initialized RX4) 160 (by decide +kernel), tb_at (w := Cond.instanceMethod yX4_holds) 1230 (by decide +kernel), tb_at (w := Cond.selects yX4_holds.cls yX4_holds yX4_holds) 1231 (by decide +kernel), ⟨by decide +kernel, by decide +kernel, by decide +kernel⟩⟩
theorem cnX9_103 : Cond.constant RX9 103 (-1000000000) ∈ tb := tb_at 1240 (by decide +kernel)
theorem mlX9_95 : Cond.methodLink RX9 95 yX4_total ∈ tb := tb_at 1238 (by decide +kernel)
theorem mlX11_272 : Cond.methodLink RX11 272 yX4_holds ∈ tb := tb_at 1229 (by decide +kernel)
theorem mlX11_275 : Cond.methodLink RX11 275 yX9_improve ∈ tb := tb_at 1234 (by decide +kernel)
theorem kmV_X9_improve : KmV yX9_improve cX9_improve 12 (some .int) 1 := ⟨tb_at (w := Cond.code yX9_improve cX9_improve 12 (some .int)) 1237 (by decide +kernel), tb_at (w := Cond.initialized RX9) 162 (by decide +kernel), tb_at (w := Cond.instanceMethod yX9_improve) 1235 (by decide +kernel), tb_at (w := Cond.selects yX9_improve.cls yX9_improve yX9_improve) 1236 (by decide +kernel), ⟨by decide +kernel, by decide +kernel, by decide +kernel⟩⟩
theorem mlX11_282 : Cond.methodLink RX11 282 yX9_bestOfTwo ∈ tb := tb_at 1250 (by decide +kernel)
theorem kmV_X9_bestOfTwo : KmV yX9_bestOfTwo cX9_bestOfTwo 10 (some .int) 2 := ⟨tb_at (w := Cond.code yX9_bestOfTwo cX9_bestOfTwo 10 (some .int)) 1253 (by decide +kernel), tb_at (w := Cond.initialized RX9) 162 (by decide +kernel), tb_at (w := Cond.instanceMethod yX9_bestOfTwo) 1251 (by decide +kernel), tb_at (w := Cond.selects yX9_bestOfTwo.cls yX9_bestOfTwo yX9_bestOfTwo) 1252 (by decide +kernel), ⟨by decide +kernel, by decide +kernel, by decide +kernel⟩⟩
theorem clX11_334 : Cond.constantLong RX11 334 1103515245 ∈ tb := tb_at 1361 (by decide +kernel)
theorem clX11_336 : Cond.constantLong RX11 336 12345 ∈ tb := tb_at 1362 (by decide +kernel)
theorem clX11_338 : Cond.constantLong RX11 338 2147483647 ∈ tb := tb_at 1363 (by decide +kernel)
theorem clX11_340 : Cond.constantLong RX11 340 64 ∈ tb := tb_at 1364 (by decide +kernel)
theorem clX11_342 : Cond.constantLong RX11 342 100 ∈ tb := tb_at 1365 (by decide +kernel)
theorem flX11_331 : Cond.fieldLink RX11 331 (TX2 12).1 (TX2 12).2.1 (TX2 12).2.2.1 ∈ tb := tb_at 400 (by decide +kernel)
theorem mlX11_328 : Cond.methodLink RX11 328 yX11_drawComer ∈ tb := tb_at 1357 (by decide +kernel)
theorem kmV_X11_drawComer : KmV yX11_drawComer cX11_drawComer 2 (some .int) 1 := ⟨tb_at (w := Cond.code yX11_drawComer cX11_drawComer 2 (some .int)) 1360 (by decide +kernel), tb_at (w := Cond.initialized RX11) 148 (by decide +kernel), tb_at (w := Cond.instanceMethod yX11_drawComer) 1359 (by decide +kernel), tb_at (w := Cond.selects yX11_drawComer.cls yX11_drawComer yX11_drawComer) 54 (by decide +kernel), ⟨by decide +kernel, by decide +kernel, by decide +kernel⟩⟩
theorem mlX11_325 : Cond.methodLink RX11 325 yX4_isIn ∈ tb := tb_at 1356 (by decide +kernel)
theorem flX11_66 : Cond.fieldLink RX11 66 (TX11 7).1 (TX11 7).2.1 (TX11 7).2.2.1 ∈ tb := tb_at 668 (by decide +kernel)
theorem mlX11_309 : Cond.methodLink RX11 309 yX0_above ∈ tb := tb_at 1320 (by decide +kernel)
theorem clX11_316 : Cond.constantLong RX11 316 10000000000 ∈ tb := tb_at 1332 (by decide +kernel)
theorem mlX11_313 : Cond.methodLink RX11 313 yX11_isPart ∈ tb := tb_at 1329 (by decide +kernel)
theorem kmS_X11_isPart : KmS yX11_isPart cX11_isPart 1 (some .boolean) 1 := ⟨tb_at (w := Cond.code yX11_isPart cX11_isPart 1 (some .boolean)) 1331 (by decide +kernel), tb_at (w := Cond.initialized RX11) 148 (by decide +kernel), tb_at (w := Cond.static yX11_isPart) 1330 (by decide +kernel), ⟨by decide +kernel, by decide +kernel, by decide +kernel⟩⟩
theorem mlX11_305 : Cond.methodLink RX11 305 yX0_gather ∈ tb := tb_at 1302 (by decide +kernel)
theorem kmV_X0_gather : KmV yX0_gather cX0_gather 5 none 2 := ⟨tb_at (w := Cond.code yX0_gather cX0_gather 5 none) 1305 (by decide +kernel), tb_at (w := Cond.initialized RX0) 164 (by decide +kernel), tb_at (w := Cond.instanceMethod yX0_gather) 1303 (by decide +kernel), tb_at (w := Cond.selects yX0_gather.cls yX0_gather yX0_gather) 1304 (by decide +kernel), ⟨by decide +kernel, by decide +kernel, by decide +kernel⟩⟩
theorem mlX11_93 : Cond.methodLink RX11 93 yX11_addBytes ∈ tb := tb_at 712 (by decide +kernel)
theorem kmV_X11_addBytes : KmV yX11_addBytes cX11_addBytes 3 none 1 := ⟨tb_at (w := Cond.code yX11_addBytes cX11_addBytes 3 none) 715 (by decide +kernel), tb_at (w := Cond.initialized RX11) 148 (by decide +kernel), tb_at (w := Cond.instanceMethod yX11_addBytes) 714 (by decide +kernel), tb_at (w := Cond.selects yX11_addBytes.cls yX11_addBytes yX11_addBytes) 2 (by decide +kernel), ⟨by decide +kernel, by decide +kernel, by decide +kernel⟩⟩
theorem flX9_19 : Cond.fieldLink RX9 19 (TX9 3).1 (TX9 3).2.1 (TX9 3).2.2.1 ∈ tb := tb_at 617 (by decide +kernel)
theorem flX9_9 : Cond.fieldLink RX9 9 (TX9 1).1 (TX9 1).2.1 (TX9 1).2.2.1 ∈ tb := tb_at 614 (by decide +kernel)
theorem mlX9_63 : Cond.methodLink RX9 63 yX9_isFitting ∈ tb := tb_at 1200 (by decide +kernel)
theorem kmV_X9_isFitting : KmV yX9_isFitting cX9_isFitting 6 (some .boolean) 2 := ⟨tb_at (w := Cond.code yX9_isFitting cX9_isFitting 6 (some .boolean)) 1203 (by decide +kernel), tb_at (w := Cond.initialized RX9) 162 (by decide +kernel), tb_at (w := Cond.instanceMethod yX9_isFitting) 1202 (by decide +kernel), tb_at (w := Cond.selects yX9_isFitting.cls yX9_isFitting yX9_isFitting) 48 (by decide +kernel), ⟨by decide +kernel, by decide +kernel, by decide +kernel⟩⟩
theorem mlX9_56 : Cond.methodLink RX9 56 yX9_load ∈ tb := tb_at 1196 (by decide +kernel)
theorem kmV_X9_load : KmV yX9_load cX9_load 4 none 2 := ⟨tb_at (w := Cond.code yX9_load cX9_load 4 none) 1199 (by decide +kernel), tb_at (w := Cond.initialized RX9) 162 (by decide +kernel), tb_at (w := Cond.instanceMethod yX9_load) 1198 (by decide +kernel), tb_at (w := Cond.selects yX9_load.cls yX9_load yX9_load) 47 (by decide +kernel), ⟨by decide +kernel, by decide +kernel, by decide +kernel⟩⟩
theorem mlX9_41 : Cond.methodLink RX9 41 yJ7_fill_53178 ∈ tb := tb_at 1194 (by decide +kernel)
theorem kmS_J7_fill_53178 : KmS yJ7_fill_53178 cJ7_fill_53178 4 none 2 := ⟨tb_at (w := Cond.code yJ7_fill_53178 cJ7_fill_53178 4 none) 578 (by decide +kernel), tb_at (w := Cond.initialized RJ7) 161 (by decide +kernel), tb_at (w := Cond.static yJ7_fill_53178) 577 (by decide +kernel), ⟨by decide +kernel, by decide +kernel, by decide +kernel⟩⟩
theorem mlX9_91 : Cond.methodLink RX9 91 yX9_search ∈ tb := tb_at 1224 (by decide +kernel)
theorem kmV_X9_search : KmV yX9_search cX9_search 5 (some .int) 1 := ⟨tb_at (w := Cond.code yX9_search cX9_search 5 (some .int)) 1193 (by decide +kernel), tb_at (w := Cond.initialized RX9) 162 (by decide +kernel), tb_at (w := Cond.instanceMethod yX9_search) 1191 (by decide +kernel), tb_at (w := Cond.selects yX9_search.cls yX9_search yX9_search) 1192 (by decide +kernel), ⟨by decide +kernel, by decide +kernel, by decide +kernel⟩⟩
theorem mlX11_269 : Cond.methodLink RX11 269 yX9_fewestDesks ∈ tb := tb_at 1220 (by decide +kernel)
theorem kmV_X9_fewestDesks : KmV yX9_fewestDesks cX9_fewestDesks 3 (some .int) 0 := ⟨tb_at (w := Cond.code yX9_fewestDesks cX9_fewestDesks 3 (some .int)) 1223 (by decide +kernel), tb_at (w := Cond.initialized RX9) 162 (by decide +kernel), tb_at (w := Cond.instanceMethod yX9_fewestDesks) 1221 (by decide +kernel), tb_at (w := Cond.selects yX9_fewestDesks.cls yX9_fewestDesks yX9_fewestDesks) 1222 (by decide +kernel), ⟨by decide +kernel, by decide +kernel, by decide +kernel⟩⟩
theorem mlX8_91 : Cond.methodLink RX8 91 yX8_isMovable ∈ tb := tb_at 1424 (by decide +kernel)
theorem kmV_X8_isMovable : KmV yX8_isMovable cX8_isMovable 2 (some .boolean) 1 := ⟨tb_at (w := Cond.code yX8_isMovable cX8_isMovable 2 (some .boolean)) 1427 (by decide +kernel), tb_at (w := Cond.initialized RX8) 163 (by decide +kernel), tb_at (w := Cond.instanceMethod yX8_isMovable) 1426 (by decide +kernel), tb_at (w := Cond.selects yX8_isMovable.cls yX8_isMovable yX8_isMovable) 60 (by decide +kernel), ⟨by decide +kernel, by decide +kernel, by decide +kernel⟩⟩
theorem mlX8_95 : Cond.methodLink RX8 95 yX8_exchange ∈ tb := tb_at 1428 (by decide +kernel)
theorem kmV_X8_exchange : KmV yX8_exchange cX8_exchange 4 none 2 := ⟨tb_at (w := Cond.code yX8_exchange cX8_exchange 4 none) 1431 (by decide +kernel), tb_at (w := Cond.initialized RX8) 163 (by decide +kernel), tb_at (w := Cond.instanceMethod yX8_exchange) 1430 (by decide +kernel), tb_at (w := Cond.selects yX8_exchange.cls yX8_exchange yX8_exchange) 61 (by decide +kernel), ⟨by decide +kernel, by decide +kernel, by decide +kernel⟩⟩
theorem flX8_15 : Cond.fieldLink RX8 15 (TX8 2).1 (TX8 2).2.1 (TX8 2).2.2.1 ∈ tb := tb_at 639 (by decide +kernel)
theorem mlX8_64 : Cond.methodLink RX8 64 yX8_tiesThere ∈ tb := tb_at 1408 (by decide +kernel)
theorem kmV_X8_tiesThere : KmV yX8_tiesThere cX8_tiesThere 9 (some .int) 2 := ⟨tb_at (w := Cond.code yX8_tiesThere cX8_tiesThere 9 (some .int)) 1411 (by decide +kernel), tb_at (w := Cond.initialized RX8) 163 (by decide +kernel), tb_at (w := Cond.instanceMethod yX8_tiesThere) 1410 (by decide +kernel), tb_at (w := Cond.selects yX8_tiesThere.cls yX8_tiesThere yX8_tiesThere) 58 (by decide +kernel), ⟨by decide +kernel, by decide +kernel, by decide +kernel⟩⟩
theorem mlX8_60 : Cond.methodLink RX8 60 yX8_settleBest ∈ tb := tb_at 1404 (by decide +kernel)
theorem kmV_X8_settleBest : KmV yX8_settleBest cX8_settleBest 6 none 1 := ⟨tb_at (w := Cond.code yX8_settleBest cX8_settleBest 6 none) 1407 (by decide +kernel), tb_at (w := Cond.initialized RX8) 163 (by decide +kernel), tb_at (w := Cond.instanceMethod yX8_settleBest) 1406 (by decide +kernel), tb_at (w := Cond.selects yX8_settleBest.cls yX8_settleBest yX8_settleBest) 57 (by decide +kernel), ⟨by decide +kernel, by decide +kernel, by decide +kernel⟩⟩
theorem flX4_179 : Cond.fieldLink RX4 179 (TX3 10).1 (TX3 10).2.1 (TX3 10).2.2.1 ∈ tb := tb_at 292 (by decide +kernel)
theorem flX4_182 : Cond.fieldLink RX4 182 (TX3 9).1 (TX3 9).2.1 (TX3 9).2.2.1 ∈ tb := tb_at 288 (by decide +kernel)
theorem mlX4_185 : Cond.methodLink RX4 185 yX4_aloneWith ∈ tb := tb_at 1394 (by decide +kernel)
theorem mlX4_176 : Cond.methodLink RX4 176 yX4_choiceAlone ∈ tb := tb_at 1390 (by decide +kernel)
theorem kmV_X4_choiceAlone : KmV yX4_choiceAlone cX4_choiceAlone 8 (some .int) 1 := ⟨tb_at (w := Cond.code yX4_choiceAlone cX4_choiceAlone 8 (some .int)) 1393 (by decide +kernel), tb_at (w := Cond.initialized RX4) 160 (by decide +kernel), tb_at (w := Cond.instanceMethod yX4_choiceAlone) 1392 (by decide +kernel), tb_at (w := Cond.selects yX4_choiceAlone.cls yX4_choiceAlone yX4_choiceAlone) 56 (by decide +kernel), ⟨by decide +kernel, by decide +kernel, by decide +kernel⟩⟩
theorem mlX4_172 : Cond.methodLink RX4 172 yX4_goRound ∈ tb := tb_at 1386 (by decide +kernel)
theorem kmV_X4_goRound : KmV yX4_goRound cX4_goRound 4 (some .boolean) 0 := ⟨tb_at (w := Cond.code yX4_goRound cX4_goRound 4 (some .boolean)) 1389 (by decide +kernel), tb_at (w := Cond.initialized RX4) 160 (by decide +kernel), tb_at (w := Cond.instanceMethod yX4_goRound) 1388 (by decide +kernel), tb_at (w := Cond.selects yX4_goRound.cls yX4_goRound yX4_goRound) 55 (by decide +kernel), ⟨by decide +kernel, by decide +kernel, by decide +kernel⟩⟩
theorem mlX11_347 : Cond.methodLink RX11 347 yX4_roundsTillRest ∈ tb := tb_at 1382 (by decide +kernel)
theorem kmV_X4_roundsTillRest : KmV yX4_roundsTillRest cX4_roundsTillRest 3 (some .int) 1 := ⟨tb_at (w := Cond.code yX4_roundsTillRest cX4_roundsTillRest 3 (some .int)) 1385 (by decide +kernel), tb_at (w := Cond.initialized RX4) 160 (by decide +kernel), tb_at (w := Cond.instanceMethod yX4_roundsTillRest) 1383 (by decide +kernel), tb_at (w := Cond.selects yX4_roundsTillRest.cls yX4_roundsTillRest yX4_roundsTillRest) 1384 (by decide +kernel), ⟨by decide +kernel, by decide +kernel, by decide +kernel⟩⟩
theorem flX3_43 : Cond.fieldLink RX3 43 (TX3 10).1 (TX3 10).2.1 (TX3 10).2.2.1 ∈ tb := tb_at 289 (by decide +kernel)
theorem mlX3_52 : Cond.methodLink RX3 52 yX3_isSuited ∈ tb := tb_at 1017 (by decide +kernel)
theorem kmV_X3_isSuited : KmV yX3_isSuited cX3_isSuited 3 (some .boolean) 2 := ⟨tb_at (w := Cond.code yX3_isSuited cX3_isSuited 3 (some .boolean)) 1020 (by decide +kernel), tb_at (w := Cond.initialized RX3) 151 (by decide +kernel), tb_at (w := Cond.instanceMethod yX3_isSuited) 1018 (by decide +kernel), tb_at (w := Cond.selects yX3_isSuited.cls yX3_isSuited yX3_isSuited) 1019 (by decide +kernel), ⟨by decide +kernel, by decide +kernel, by decide +kernel⟩⟩
theorem flX3_40 : Cond.fieldLink RX3 40 (TX3 9).1 (TX3 9).2.1 (TX3 9).2.2.1 ∈ tb := tb_at 286 (by decide +kernel)
theorem flX2_44 : Cond.fieldLink RX2 44 (TX2 6).1 (TX2 6).2.1 (TX2 6).2.2.1 ∈ tb := tb_at 376 (by decide +kernel)
theorem flX2_78 : Cond.fieldLink RX2 78 (TX3 2).1 (TX3 2).2.1 (TX3 2).2.2.1 ∈ tb := tb_at 257 (by decide +kernel)
theorem mlX2_75 : Cond.methodLink RX2 75 yX3_listSuiting ∈ tb := tb_at 1013 (by decide +kernel)
theorem kmV_X3_listSuiting : KmV yX3_listSuiting cX3_listSuiting 4 none 0 := ⟨tb_at (w := Cond.code yX3_listSuiting cX3_listSuiting 4 none) 1016 (by decide +kernel), tb_at (w := Cond.initialized RX3) 151 (by decide +kernel), tb_at (w := Cond.instanceMethod yX3_listSuiting) 1014 (by decide +kernel), tb_at (w := Cond.selects yX3_listSuiting.cls yX3_listSuiting yX3_listSuiting) 1015 (by decide +kernel), ⟨by decide +kernel, by decide +kernel, by decide +kernel⟩⟩
theorem mlX4_33 : Cond.methodLink RX4 33 yJ7_fill_53178 ∈ tb := tb_at 576 (by decide +kernel)
theorem clX11_303 : Cond.constantLong RX11 303 (-1) ∈ tb := tb_at 1301 (by decide +kernel)
theorem mlX11_370 : Cond.methodLink RX11 370 yX9_otherSets ∈ tb := tb_at 1478 (by decide +kernel)
theorem kmV_X9_otherSets : KmV yX9_otherSets cX9_otherSets 7 (some .int) 1 := ⟨tb_at (w := Cond.code yX9_otherSets cX9_otherSets 7 (some .int)) 1481 (by decide +kernel), tb_at (w := Cond.initialized RX9) 162 (by decide +kernel), tb_at (w := Cond.instanceMethod yX9_otherSets) 1479 (by decide +kernel), tb_at (w := Cond.selects yX9_otherSets.cls yX9_otherSets yX9_otherSets) 1480 (by decide +kernel), ⟨by decide +kernel, by decide +kernel, by decide +kernel⟩⟩
theorem mlX11_377 : Cond.methodLink RX11 377 yX11_isImage ∈ tb := tb_at 1497 (by decide +kernel)
theorem kmV_X11_isImage : KmV yX11_isImage cX11_isImage 2 (some .boolean) 0 := ⟨tb_at (w := Cond.code yX11_isImage cX11_isImage 2 (some .boolean)) 1500 (by decide +kernel), tb_at (w := Cond.initialized RX11) 148 (by decide +kernel), tb_at (w := Cond.instanceMethod yX11_isImage) 1499 (by decide +kernel), tb_at (w := Cond.selects yX11_isImage.cls yX11_isImage yX11_isImage) 64 (by decide +kernel), ⟨by decide +kernel, by decide +kernel, by decide +kernel⟩⟩
theorem mlX11_318 : Cond.methodLink RX11 318 yX0_mostBookings ∈ tb := tb_at 1337 (by decide +kernel)
theorem kmV_X0_mostBookings : KmV yX0_mostBookings cX0_mostBookings 6 (some .int) 3 := ⟨tb_at (w := Cond.code yX0_mostBookings cX0_mostBookings 6 (some .int)) 1340 (by decide +kernel), tb_at (w := Cond.initialized RX0) 164 (by decide +kernel), tb_at (w := Cond.instanceMethod yX0_mostBookings) 1338 (by decide +kernel), tb_at (w := Cond.selects yX0_mostBookings.cls yX0_mostBookings yX0_mostBookings) 1339 (by decide +kernel), ⟨by decide +kernel, by decide +kernel, by decide +kernel⟩⟩
theorem flX11_356 : Cond.fieldLink RX11 356 (TX8 1).1 (TX8 1).2.1 (TX8 1).2.2.1 ∈ tb := tb_at 638 (by decide +kernel)
theorem aclX9 : Cond.methodLink RX9 85 arraycopyName ∈ tb := tb_at 1209 (by decide +kernel)
theorem acn : Cond.native arraycopyName ∈ tb := tb_at 1211 (by decide +kernel)
theorem acs : Cond.static arraycopyName ∈ tb := tb_at 1210 (by decide +kernel)
theorem aci : Cond.initialized "java/lang/System" ∈ tb := tb_at 168 (by decide +kernel)
theorem mlX11_260 : Cond.methodLink RX11 260 yX9_search ∈ tb := tb_at 1190 (by decide +kernel)
theorem mlX11_263 : Cond.methodLink RX11 263 yX9_takeFound ∈ tb := tb_at 1205 (by decide +kernel)
theorem kmV_X9_takeFound : KmV yX9_takeFound cX9_takeFound 1 none 0 := ⟨tb_at (w := Cond.code yX9_takeFound cX9_takeFound 1 none) 1208 (by decide +kernel), tb_at (w := Cond.initialized RX9) 162 (by decide +kernel), tb_at (w := Cond.instanceMethod yX9_takeFound) 1206 (by decide +kernel), tb_at (w := Cond.selects yX9_takeFound.cls yX9_takeFound yX9_takeFound) 1207 (by decide +kernel), ⟨by decide +kernel, by decide +kernel, by decide +kernel⟩⟩
theorem mlX11_322 : Cond.methodLink RX11 322 yX0_meanAbove ∈ tb := tb_at 1347 (by decide +kernel)
theorem kmV_X0_meanAbove : KmV yX0_meanAbove cX0_meanAbove 5 (some .long) 1 := ⟨tb_at (w := Cond.code yX0_meanAbove cX0_meanAbove 5 (some .long)) 1350 (by decide +kernel), tb_at (w := Cond.initialized RX0) 164 (by decide +kernel), tb_at (w := Cond.instanceMethod yX0_meanAbove) 1348 (by decide +kernel), tb_at (w := Cond.selects yX0_meanAbove.cls yX0_meanAbove yX0_meanAbove) 1349 (by decide +kernel), ⟨by decide +kernel, by decide +kernel, by decide +kernel⟩⟩
theorem mlX9_104 : Cond.methodLink RX9 104 yX9_exchange ∈ tb := tb_at 1262 (by decide +kernel)
theorem kmV_X9_exchange : KmV yX9_exchange cX9_exchange 4 none 2 := ⟨tb_at (w := Cond.code yX9_exchange cX9_exchange 4 none) 1265 (by decide +kernel), tb_at (w := Cond.initialized RX9) 162 (by decide +kernel), tb_at (w := Cond.instanceMethod yX9_exchange) 1264 (by decide +kernel), tb_at (w := Cond.selects yX9_exchange.cls yX9_exchange yX9_exchange) 50 (by decide +kernel), ⟨by decide +kernel, by decide +kernel, by decide +kernel⟩⟩
theorem mlX11_285 : Cond.methodLink RX11 285 yX9_gainOfTrade ∈ tb := tb_at 1258 (by decide +kernel)
theorem kmV_X9_gainOfTrade : KmV yX9_gainOfTrade cX9_gainOfTrade 5 (some .int) 2 := ⟨tb_at (w := Cond.code yX9_gainOfTrade cX9_gainOfTrade 5 (some .int)) 1261 (by decide +kernel), tb_at (w := Cond.initialized RX9) 162 (by decide +kernel), tb_at (w := Cond.instanceMethod yX9_gainOfTrade) 1259 (by decide +kernel), tb_at (w := Cond.selects yX9_gainOfTrade.cls yX9_gainOfTrade yX9_gainOfTrade) 1260 (by decide +kernel), ⟨by decide +kernel, by decide +kernel, by decide +kernel⟩⟩
theorem dX0_admit_0 : decode cX0_admit 0 = .ok (.aload_n 0, 1) := by decide +kernel
theorem dX0_admit_1 : decode cX0_admit 1 = .ok (.getfield 13, 3) := by decide +kernel
theorem dX0_admit_10 : decode cX0_admit 10 = .ok (.aload_n 0, 1) := by decide +kernel
theorem dX0_admit_11 : decode cX0_admit 11 = .ok (.dup, 1) := by decide +kernel
theorem dX0_admit_12 : decode cX0_admit 12 = .ok (.getfield 13, 3) := by decide +kernel
theorem dX0_admit_15 : decode cX0_admit 15 = .ok (.iconst 1, 1) := by decide +kernel
theorem dX0_admit_16 : decode cX0_admit 16 = .ok (.iadd, 1) := by decide +kernel
theorem dX0_admit_17 : decode cX0_admit 17 = .ok (.putfield 13, 3) := by decide +kernel
theorem dX0_admit_20 : decode cX0_admit 20 = .ok (.aload_n 0, 1) := by decide +kernel
theorem dX0_admit_21 : decode cX0_admit 21 = .ok (.getfield 13, 3) := by decide +kernel
theorem dX0_admit_24 : decode cX0_admit 24 = .ok (.istore_n 2, 1) := by decide +kernel
theorem dX0_admit_25 : decode cX0_admit 25 = .ok (.iload_n 2, 1) := by decide +kernel
theorem dX0_admit_26 : decode cX0_admit 26 = .ok (.iconst 1, 1) := by decide +kernel
theorem dX0_admit_27 : decode cX0_admit 27 = .ok (.if_icmp .lt 43, 3) := by decide +kernel
theorem dX0_admit_30 : decode cX0_admit 30 = .ok (.aload_n 0, 1) := by decide +kernel
theorem dX0_admit_31 : decode cX0_admit 31 = .ok (.getfield 9, 3) := by decide +kernel
theorem dX0_admit_34 : decode cX0_admit 34 = .ok (.iload_n 2, 1) := by decide +kernel
theorem dX0_admit_35 : decode cX0_admit 35 = .ok (.aload_n 0, 1) := by decide +kernel
theorem dX0_admit_36 : decode cX0_admit 36 = .ok (.getfield 9, 3) := by decide +kernel
theorem dX0_admit_39 : decode cX0_admit 39 = .ok (.iload_n 2, 1) := by decide +kernel
theorem dX0_admit_4 : decode cX0_admit 4 = .ok (.bipush 40, 2) := by decide +kernel
theorem dX0_admit_40 : decode cX0_admit 40 = .ok (.laload, 1) := by decide +kernel
theorem dX0_admit_41 : decode cX0_admit 41 = .ok (.bipush 100, 2) := by decide +kernel
theorem dX0_admit_43 : decode cX0_admit 43 = .ok (.iload_n 1, 1) := by decide +kernel
theorem dX0_admit_44 : decode cX0_admit 44 = .ok (.isub, 1) := by decide +kernel
theorem dX0_admit_45 : decode cX0_admit 45 = .ok (.i2l, 1) := by decide +kernel
theorem dX0_admit_46 : decode cX0_admit 46 = .ok (.lmul, 1) := by decide +kernel
theorem dX0_admit_47 : decode cX0_admit 47 = .ok (.aload_n 0, 1) := by decide +kernel
theorem dX0_admit_48 : decode cX0_admit 48 = .ok (.getfield 9, 3) := by decide +kernel
theorem dX0_admit_51 : decode cX0_admit 51 = .ok (.iload_n 2, 1) := by decide +kernel
theorem dX0_admit_52 : decode cX0_admit 52 = .ok (.iconst 1, 1) := by decide +kernel
theorem dX0_admit_53 : decode cX0_admit 53 = .ok (.isub, 1) := by decide +kernel
theorem dX0_admit_54 : decode cX0_admit 54 = .ok (.laload, 1) := by decide +kernel
theorem dX0_admit_55 : decode cX0_admit 55 = .ok (.iload_n 1, 1) := by decide +kernel
theorem dX0_admit_56 : decode cX0_admit 56 = .ok (.i2l, 1) := by decide +kernel
theorem dX0_admit_57 : decode cX0_admit 57 = .ok (.lmul, 1) := by decide +kernel
theorem dX0_admit_58 : decode cX0_admit 58 = .ok (.ladd, 1) := by decide +kernel
theorem dX0_admit_59 : decode cX0_admit 59 = .ok (.ldc2_w 25, 3) := by decide +kernel
theorem dX0_admit_6 : decode cX0_admit 6 = .ok (.if_icmp .lt 4, 3) := by decide +kernel
theorem dX0_admit_62 : decode cX0_admit 62 = .ok (.ldiv, 1) := by decide +kernel
theorem dX0_admit_63 : decode cX0_admit 63 = .ok (.lastore, 1) := by decide +kernel
theorem dX0_admit_64 : decode cX0_admit 64 = .ok (.iinc 2 (-1), 3) := by decide +kernel
theorem dX0_admit_67 : decode cX0_admit 67 = .ok (.goto (-42), 3) := by decide +kernel
theorem dX0_admit_70 : decode cX0_admit 70 = .ok (.aload_n 0, 1) := by decide +kernel
theorem dX0_admit_71 : decode cX0_admit 71 = .ok (.getfield 9, 3) := by decide +kernel
theorem dX0_admit_74 : decode cX0_admit 74 = .ok (.iconst 0, 1) := by decide +kernel
theorem dX0_admit_75 : decode cX0_admit 75 = .ok (.aload_n 0, 1) := by decide +kernel
theorem dX0_admit_76 : decode cX0_admit 76 = .ok (.getfield 9, 3) := by decide +kernel
theorem dX0_admit_79 : decode cX0_admit 79 = .ok (.iconst 0, 1) := by decide +kernel
theorem dX0_admit_80 : decode cX0_admit 80 = .ok (.laload, 1) := by decide +kernel
theorem dX0_admit_81 : decode cX0_admit 81 = .ok (.bipush 100, 2) := by decide +kernel
theorem dX0_admit_83 : decode cX0_admit 83 = .ok (.iload_n 1, 1) := by decide +kernel
theorem dX0_admit_84 : decode cX0_admit 84 = .ok (.isub, 1) := by decide +kernel
theorem dX0_admit_85 : decode cX0_admit 85 = .ok (.i2l, 1) := by decide +kernel
theorem dX0_admit_86 : decode cX0_admit 86 = .ok (.lmul, 1) := by decide +kernel
theorem dX0_admit_87 : decode cX0_admit 87 = .ok (.ldc2_w 25, 3) := by decide +kernel
theorem dX0_admit_9 : decode cX0_admit 9 = .ok (.return_, 1) := by decide +kernel
theorem dX0_admit_90 : decode cX0_admit 90 = .ok (.ldiv, 1) := by decide +kernel
theorem dX0_admit_91 : decode cX0_admit 91 = .ok (.lastore, 1) := by decide +kernel
theorem dX0_admit_92 : decode cX0_admit 92 = .ok (.return_, 1) := by decide +kernel
theorem dX0_begin_0 : decode cX0_begin 0 = .ok (.aload_n 0, 1) := by decide +kernel
theorem dX0_begin_1 : decode cX0_begin 1 = .ok (.getfield 9, 3) := by decide +kernel
theorem dX0_begin_12 : decode cX0_begin 12 = .ok (.iconst 0, 1) := by decide +kernel
theorem dX0_begin_13 : decode cX0_begin 13 = .ok (.ldc2_w 23, 3) := by decide +kernel
theorem dX0_begin_16 : decode cX0_begin 16 = .ok (.lastore, 1) := by decide +kernel
theorem dX0_begin_17 : decode cX0_begin 17 = .ok (.aload_n 0, 1) := by decide +kernel
theorem dX0_begin_18 : decode cX0_begin 18 = .ok (.iconst 0, 1) := by decide +kernel
theorem dX0_begin_19 : decode cX0_begin 19 = .ok (.putfield 13, 3) := by decide +kernel
theorem dX0_begin_22 : decode cX0_begin 22 = .ok (.return_, 1) := by decide +kernel
theorem dX0_begin_4 : decode cX0_begin 4 = .ok (.lconst 0, 1) := by decide +kernel
theorem dX0_begin_5 : decode cX0_begin 5 = .ok (.invokestatic 17, 3) := by decide +kernel
theorem dX0_begin_8 : decode cX0_begin 8 = .ok (.aload_n 0, 1) := by decide +kernel
theorem dX0_begin_9 : decode cX0_begin 9 = .ok (.getfield 9, 3) := by decide +kernel
theorem dX0_gather_0 : decode cX0_gather 0 = .ok (.aload_n 1, 1) := by decide +kernel
theorem dX0_gather_1 : decode cX0_gather 1 = .ok (.getfield 27, 3) := by decide +kernel
theorem dX0_gather_10 : decode cX0_gather 10 = .ok (.istore 4, 2) := by decide +kernel
theorem dX0_gather_12 : decode cX0_gather 12 = .ok (.iload 4, 2) := by decide +kernel
theorem dX0_gather_14 : decode cX0_gather 14 = .ok (.aload_n 3, 1) := by decide +kernel
theorem dX0_gather_15 : decode cX0_gather 15 = .ok (.getfield 36, 3) := by decide +kernel
theorem dX0_gather_18 : decode cX0_gather 18 = .ok (.getfield 42, 3) := by decide +kernel
theorem dX0_gather_21 : decode cX0_gather 21 = .ok (.if_icmp .ge 33, 3) := by decide +kernel
theorem dX0_gather_24 : decode cX0_gather 24 = .ok (.aload_n 1, 1) := by decide +kernel
theorem dX0_gather_25 : decode cX0_gather 25 = .ok (.iload 4, 2) := by decide +kernel
theorem dX0_gather_27 : decode cX0_gather 27 = .ok (.iload_n 2, 1) := by decide +kernel
theorem dX0_gather_28 : decode cX0_gather 28 = .ok (.invokevirtual 47, 3) := by decide +kernel
theorem dX0_gather_31 : decode cX0_gather 31 = .ok (.ifCond .eq 17, 3) := by decide +kernel
theorem dX0_gather_34 : decode cX0_gather 34 = .ok (.aload_n 0, 1) := by decide +kernel
theorem dX0_gather_35 : decode cX0_gather 35 = .ok (.aload_n 3, 1) := by decide +kernel
theorem dX0_gather_36 : decode cX0_gather 36 = .ok (.getfield 36, 3) := by decide +kernel
theorem dX0_gather_39 : decode cX0_gather 39 = .ok (.getfield 51, 3) := by decide +kernel
theorem dX0_gather_4 : decode cX0_gather 4 = .ok (.astore_n 3, 1) := by decide +kernel
theorem dX0_gather_42 : decode cX0_gather 42 = .ok (.iload 4, 2) := by decide +kernel
theorem dX0_gather_44 : decode cX0_gather 44 = .ok (.iaload, 1) := by decide +kernel
theorem dX0_gather_45 : decode cX0_gather 45 = .ok (.invokevirtual 55, 3) := by decide +kernel
theorem dX0_gather_48 : decode cX0_gather 48 = .ok (.iinc 4 1, 3) := by decide +kernel
theorem dX0_gather_5 : decode cX0_gather 5 = .ok (.aload_n 0, 1) := by decide +kernel
theorem dX0_gather_51 : decode cX0_gather 51 = .ok (.goto (-39), 3) := by decide +kernel
theorem dX0_gather_54 : decode cX0_gather 54 = .ok (.iconst 0, 1) := by decide +kernel
theorem dX0_gather_55 : decode cX0_gather 55 = .ok (.istore 4, 2) := by decide +kernel
theorem dX0_gather_57 : decode cX0_gather 57 = .ok (.iload 4, 2) := by decide +kernel
theorem dX0_gather_59 : decode cX0_gather 59 = .ok (.aload_n 3, 1) := by decide +kernel
theorem dX0_gather_6 : decode cX0_gather 6 = .ok (.invokevirtual 33, 3) := by decide +kernel
theorem dX0_gather_60 : decode cX0_gather 60 = .ok (.getfield 59, 3) := by decide +kernel
theorem dX0_gather_63 : decode cX0_gather 63 = .ok (.iload_n 2, 1) := by decide +kernel
theorem dX0_gather_64 : decode cX0_gather 64 = .ok (.iaload, 1) := by decide +kernel
theorem dX0_gather_65 : decode cX0_gather 65 = .ok (.if_icmp .ge 19, 3) := by decide +kernel
theorem dX0_gather_68 : decode cX0_gather 68 = .ok (.aload_n 0, 1) := by decide +kernel
theorem dX0_gather_69 : decode cX0_gather 69 = .ok (.aload_n 3, 1) := by decide +kernel
theorem dX0_gather_70 : decode cX0_gather 70 = .ok (.getfield 62, 3) := by decide +kernel
theorem dX0_gather_73 : decode cX0_gather 73 = .ok (.iload_n 2, 1) := by decide +kernel
theorem dX0_gather_74 : decode cX0_gather 74 = .ok (.iaload, 1) := by decide +kernel
theorem dX0_gather_75 : decode cX0_gather 75 = .ok (.invokevirtual 55, 3) := by decide +kernel
theorem dX0_gather_78 : decode cX0_gather 78 = .ok (.iinc 4 1, 3) := by decide +kernel
theorem dX0_gather_81 : decode cX0_gather 81 = .ok (.goto (-24), 3) := by decide +kernel
theorem dX0_gather_84 : decode cX0_gather 84 = .ok (.return_, 1) := by decide +kernel
theorem dX0_gather_9 : decode cX0_gather 9 = .ok (.iconst 0, 1) := by decide +kernel
theorem dX0_mostBookings_0 : decode cX0_mostBookings 0 = .ok (.iconst 0, 1) := by decide +kernel
theorem dX0_mostBookings_1 : decode cX0_mostBookings 1 = .ok (.istore 4, 2) := by decide +kernel
theorem dX0_mostBookings_10 : decode cX0_mostBookings 10 = .ok (.iload 5, 2) := by decide +kernel
theorem dX0_mostBookings_12 : decode cX0_mostBookings 12 = .ok (.bipush 40, 2) := by decide +kernel
theorem dX0_mostBookings_14 : decode cX0_mostBookings 14 = .ok (.if_icmp .gt 33, 3) := by decide +kernel
theorem dX0_mostBookings_17 : decode cX0_mostBookings 17 = .ok (.aload_n 0, 1) := by decide +kernel
theorem dX0_mostBookings_18 : decode cX0_mostBookings 18 = .ok (.iload_n 1, 1) := by decide +kernel
theorem dX0_mostBookings_19 : decode cX0_mostBookings 19 = .ok (.invokevirtual 55, 3) := by decide +kernel
theorem dX0_mostBookings_22 : decode cX0_mostBookings 22 = .ok (.aload_n 0, 1) := by decide +kernel
theorem dX0_mostBookings_23 : decode cX0_mostBookings 23 = .ok (.iload_n 2, 1) := by decide +kernel
theorem dX0_mostBookings_24 : decode cX0_mostBookings 24 = .ok (.invokevirtual 73, 3) := by decide +kernel
theorem dX0_mostBookings_27 : decode cX0_mostBookings 27 = .ok (.iload_n 3, 1) := by decide +kernel
theorem dX0_mostBookings_28 : decode cX0_mostBookings 28 = .ok (.i2l, 1) := by decide +kernel
theorem dX0_mostBookings_29 : decode cX0_mostBookings 29 = .ok (.ldc2_w 77, 3) := by decide +kernel
theorem dX0_mostBookings_3 : decode cX0_mostBookings 3 = .ok (.aload_n 0, 1) := by decide +kernel
theorem dX0_mostBookings_32 : decode cX0_mostBookings 32 = .ok (.lmul, 1) := by decide +kernel
theorem dX0_mostBookings_33 : decode cX0_mostBookings 33 = .ok (.lcmp, 1) := by decide +kernel
theorem dX0_mostBookings_34 : decode cX0_mostBookings 34 = .ok (.ifCond .gt 7, 3) := by decide +kernel
theorem dX0_mostBookings_37 : decode cX0_mostBookings 37 = .ok (.iload 5, 2) := by decide +kernel
theorem dX0_mostBookings_39 : decode cX0_mostBookings 39 = .ok (.istore 4, 2) := by decide +kernel
theorem dX0_mostBookings_4 : decode cX0_mostBookings 4 = .ok (.invokevirtual 33, 3) := by decide +kernel
theorem dX0_mostBookings_41 : decode cX0_mostBookings 41 = .ok (.iinc 5 1, 3) := by decide +kernel
theorem dX0_mostBookings_44 : decode cX0_mostBookings 44 = .ok (.goto (-34), 3) := by decide +kernel
theorem dX0_mostBookings_47 : decode cX0_mostBookings 47 = .ok (.iload 4, 2) := by decide +kernel
theorem dX0_mostBookings_49 : decode cX0_mostBookings 49 = .ok (.ireturn, 1) := by decide +kernel
theorem dX0_mostBookings_7 : decode cX0_mostBookings 7 = .ok (.iconst 1, 1) := by decide +kernel
theorem dX0_mostBookings_8 : decode cX0_mostBookings 8 = .ok (.istore 5, 2) := by decide +kernel
theorem dX10_askName_0 : decode cX10_askName 0 = .ok (.aload_n 0, 1) := by decide +kernel
theorem dX10_askName_1 : decode cX10_askName 1 = .ok (.getfield 15, 3) := by decide +kernel
theorem dX10_askName_10 : decode cX10_askName 10 = .ok (.aload_n 0, 1) := by decide +kernel
theorem dX10_askName_11 : decode cX10_askName 11 = .ok (.getfield 15, 3) := by decide +kernel
theorem dX10_askName_14 : decode cX10_askName 14 = .ok (.iconst 1, 1) := by decide +kernel
theorem dX10_askName_15 : decode cX10_askName 15 = .ok (.invokevirtual 97, 3) := by decide +kernel
theorem dX10_askName_18 : decode cX10_askName 18 = .ok (.goto 16, 3) := by decide +kernel
theorem dX10_askName_21 : decode cX10_askName 21 = .ok (.iload_n 1, 1) := by decide +kernel
theorem dX10_askName_22 : decode cX10_askName 22 = .ok (.iconst (-1), 1) := by decide +kernel
theorem dX10_askName_23 : decode cX10_askName 23 = .ok (.if_icmp .ne 11, 3) := by decide +kernel
theorem dX10_askName_26 : decode cX10_askName 26 = .ok (.aload_n 0, 1) := by decide +kernel
theorem dX10_askName_27 : decode cX10_askName 27 = .ok (.getfield 15, 3) := by decide +kernel
theorem dX10_askName_30 : decode cX10_askName 30 = .ok (.iconst 3, 1) := by decide +kernel
theorem dX10_askName_31 : decode cX10_askName 31 = .ok (.invokevirtual 97, 3) := by decide +kernel
theorem dX10_askName_34 : decode cX10_askName 34 = .ok (.iload_n 1, 1) := by decide +kernel
theorem dX10_askName_35 : decode cX10_askName 35 = .ok (.ireturn, 1) := by decide +kernel
theorem dX10_askName_4 : decode cX10_askName 4 = .ok (.invokevirtual 213, 3) := by decide +kernel
theorem dX10_askName_7 : decode cX10_askName 7 = .ok (.ifCond .ne 14, 3) := by decide +kernel
theorem dX10_askPerson_0 : decode cX10_askPerson 0 = .ok (.aload_n 0, 1) := by decide +kernel
theorem dX10_askPerson_1 : decode cX10_askPerson 1 = .ok (.aload_n 0, 1) := by decide +kernel
theorem dX10_askPerson_12 : decode cX10_askPerson 12 = .ok (.invokevirtual 220, 3) := by decide +kernel
theorem dX10_askPerson_15 : decode cX10_askPerson 15 = .ok (.invokevirtual 191, 3) := by decide +kernel
theorem dX10_askPerson_18 : decode cX10_askPerson 18 = .ok (.ireturn, 1) := by decide +kernel
theorem dX10_askPerson_2 : decode cX10_askPerson 2 = .ok (.getfield 19, 3) := by decide +kernel
theorem dX10_askPerson_5 : decode cX10_askPerson 5 = .ok (.aload_n 0, 1) := by decide +kernel
theorem dX10_askPerson_6 : decode cX10_askPerson 6 = .ok (.getfield 15, 3) := by decide +kernel
theorem dX10_askPerson_9 : decode cX10_askPerson 9 = .ok (.getfield 185, 3) := by decide +kernel
theorem dX10_beginOneOf_0 : decode cX10_beginOneOf 0 = .ok (.iload_n 1, 1) := by decide +kernel
theorem dX10_beginOneOf_1 : decode cX10_beginOneOf 1 = .ok (.iload_n 2, 1) := by decide +kernel
theorem dX10_beginOneOf_10 : decode cX10_beginOneOf 10 = .ok (.invokevirtual 97, 3) := by decide +kernel
theorem dX10_beginOneOf_13 : decode cX10_beginOneOf 13 = .ok (.aload_n 0, 1) := by decide +kernel
theorem dX10_beginOneOf_14 : decode cX10_beginOneOf 14 = .ok (.getfield 15, 3) := by decide +kernel
theorem dX10_beginOneOf_17 : decode cX10_beginOneOf 17 = .ok (.invokevirtual 148, 3) := by decide +kernel
theorem dX10_beginOneOf_2 : decode cX10_beginOneOf 2 = .ok (.if_icmp .lt 11, 3) := by decide +kernel
theorem dX10_beginOneOf_20 : decode cX10_beginOneOf 20 = .ok (.return_, 1) := by decide +kernel
theorem dX10_beginOneOf_5 : decode cX10_beginOneOf 5 = .ok (.aload_n 0, 1) := by decide +kernel
theorem dX10_beginOneOf_6 : decode cX10_beginOneOf 6 = .ok (.getfield 15, 3) := by decide +kernel
theorem dX10_beginOneOf_9 : decode cX10_beginOneOf 9 = .ok (.iconst 5, 1) := by decide +kernel
theorem dX10_begin_0 : decode cX10_begin 0 = .ok (.aload_n 0, 1) := by decide +kernel
theorem dX10_begin_1 : decode cX10_begin 1 = .ok (.aload_n 1, 1) := by decide +kernel
theorem dX10_begin_12 : decode cX10_begin 12 = .ok (.aload_n 0, 1) := by decide +kernel
theorem dX10_begin_13 : decode cX10_begin 13 = .ok (.iconst 0, 1) := by decide +kernel
theorem dX10_begin_14 : decode cX10_begin 14 = .ok (.putfield 9, 3) := by decide +kernel
theorem dX10_begin_17 : decode cX10_begin 17 = .ok (.aload_n 0, 1) := by decide +kernel
theorem dX10_begin_18 : decode cX10_begin 18 = .ok (.getfield 15, 3) := by decide +kernel
theorem dX10_begin_2 : decode cX10_begin 2 = .ok (.putfield 19, 3) := by decide +kernel
theorem dX10_begin_21 : decode cX10_begin 21 = .ok (.iload_n 2, 1) := by decide +kernel
theorem dX10_begin_22 : decode cX10_begin 22 = .ok (.invokevirtual 41, 3) := by decide +kernel
theorem dX10_begin_25 : decode cX10_begin 25 = .ok (.return_, 1) := by decide +kernel
theorem dX10_begin_5 : decode cX10_begin 5 = .ok (.aload_n 0, 1) := by decide +kernel
theorem dX10_begin_6 : decode cX10_begin 6 = .ok (.getfield 19, 3) := by decide +kernel
theorem dX10_begin_9 : decode cX10_begin 9 = .ok (.invokevirtual 38, 3) := by decide +kernel
theorem dX10_readCannot_0 : decode cX10_readCannot 0 = .ok (.aload_n 0, 1) := by decide +kernel
theorem dX10_readCannot_1 : decode cX10_readCannot 1 = .ok (.getfield 15, 3) := by decide +kernel
theorem dX10_readCannot_11 : decode cX10_readCannot 11 = .ok (.istore_n 1, 1) := by decide +kernel
theorem dX10_readCannot_12 : decode cX10_readCannot 12 = .ok (.aload_n 0, 1) := by decide +kernel
theorem dX10_readCannot_13 : decode cX10_readCannot 13 = .ok (.invokevirtual 154, 3) := by decide +kernel
theorem dX10_readCannot_16 : decode cX10_readCannot 16 = .ok (.istore_n 2, 1) := by decide +kernel
theorem dX10_readCannot_17 : decode cX10_readCannot 17 = .ok (.aload_n 0, 1) := by decide +kernel
theorem dX10_readCannot_18 : decode cX10_readCannot 18 = .ok (.getfield 15, 3) := by decide +kernel
theorem dX10_readCannot_21 : decode cX10_readCannot 21 = .ok (.invokevirtual 121, 3) := by decide +kernel
theorem dX10_readCannot_24 : decode cX10_readCannot 24 = .ok (.ifCond .ne 21, 3) := by decide +kernel
theorem dX10_readCannot_27 : decode cX10_readCannot 27 = .ok (.aload_n 0, 1) := by decide +kernel
theorem dX10_readCannot_28 : decode cX10_readCannot 28 = .ok (.getfield 19, 3) := by decide +kernel
theorem dX10_readCannot_31 : decode cX10_readCannot 31 = .ok (.getfield 135, 3) := by decide +kernel
theorem dX10_readCannot_34 : decode cX10_readCannot 34 = .ok (.getfield 157, 3) := by decide +kernel
theorem dX10_readCannot_37 : decode cX10_readCannot 37 = .ok (.iload_n 1, 1) := by decide +kernel
theorem dX10_readCannot_38 : decode cX10_readCannot 38 = .ok (.dup2, 1) := by decide +kernel
theorem dX10_readCannot_39 : decode cX10_readCannot 39 = .ok (.iaload, 1) := by decide +kernel
theorem dX10_readCannot_4 : decode cX10_readCannot 4 = .ok (.invokevirtual 148, 3) := by decide +kernel
theorem dX10_readCannot_40 : decode cX10_readCannot 40 = .ok (.iconst 1, 1) := by decide +kernel
theorem dX10_readCannot_41 : decode cX10_readCannot 41 = .ok (.iload_n 2, 1) := by decide +kernel
theorem dX10_readCannot_42 : decode cX10_readCannot 42 = .ok (.ishl, 1) := by decide +kernel
theorem dX10_readCannot_43 : decode cX10_readCannot 43 = .ok (.ior, 1) := by decide +kernel
theorem dX10_readCannot_44 : decode cX10_readCannot 44 = .ok (.iastore, 1) := by decide +kernel
theorem dX10_readCannot_45 : decode cX10_readCannot 45 = .ok (.return_, 1) := by decide +kernel
theorem dX10_readCannot_7 : decode cX10_readCannot 7 = .ok (.aload_n 0, 1) := by decide +kernel
theorem dX10_readCannot_8 : decode cX10_readCannot 8 = .ok (.invokevirtual 151, 3) := by decide +kernel
theorem dX10_readComes_0 : decode cX10_readComes 0 = .ok (.aload_n 0, 1) := by decide +kernel
theorem dX10_readComes_1 : decode cX10_readComes 1 = .ok (.getfield 15, 3) := by decide +kernel
theorem dX10_readComes_11 : decode cX10_readComes 11 = .ok (.istore_n 1, 1) := by decide +kernel
theorem dX10_readComes_12 : decode cX10_readComes 12 = .ok (.aload_n 0, 1) := by decide +kernel
theorem dX10_readComes_13 : decode cX10_readComes 13 = .ok (.bipush 100, 2) := by decide +kernel
theorem dX10_readComes_15 : decode cX10_readComes 15 = .ok (.invokevirtual 117, 3) := by decide +kernel
theorem dX10_readComes_18 : decode cX10_readComes 18 = .ok (.istore_n 2, 1) := by decide +kernel
theorem dX10_readComes_19 : decode cX10_readComes 19 = .ok (.aload_n 0, 1) := by decide +kernel
theorem dX10_readComes_20 : decode cX10_readComes 20 = .ok (.getfield 15, 3) := by decide +kernel
theorem dX10_readComes_23 : decode cX10_readComes 23 = .ok (.invokevirtual 121, 3) := by decide +kernel
theorem dX10_readComes_26 : decode cX10_readComes 26 = .ok (.ifCond .ne 16, 3) := by decide +kernel
theorem dX10_readComes_29 : decode cX10_readComes 29 = .ok (.aload_n 0, 1) := by decide +kernel
theorem dX10_readComes_30 : decode cX10_readComes 30 = .ok (.getfield 19, 3) := by decide +kernel
theorem dX10_readComes_33 : decode cX10_readComes 33 = .ok (.getfield 135, 3) := by decide +kernel
theorem dX10_readComes_36 : decode cX10_readComes 36 = .ok (.getfield 173, 3) := by decide +kernel
theorem dX10_readComes_39 : decode cX10_readComes 39 = .ok (.iload_n 1, 1) := by decide +kernel
theorem dX10_readComes_4 : decode cX10_readComes 4 = .ok (.invokevirtual 148, 3) := by decide +kernel
theorem dX10_readComes_40 : decode cX10_readComes 40 = .ok (.iload_n 2, 1) := by decide +kernel
theorem dX10_readComes_41 : decode cX10_readComes 41 = .ok (.iastore, 1) := by decide +kernel
theorem dX10_readComes_42 : decode cX10_readComes 42 = .ok (.return_, 1) := by decide +kernel
theorem dX10_readComes_7 : decode cX10_readComes 7 = .ok (.aload_n 0, 1) := by decide +kernel
theorem dX10_readComes_8 : decode cX10_readComes 8 = .ok (.invokevirtual 151, 3) := by decide +kernel
theorem dX10_readFloor_0 : decode cX10_readFloor 0 = .ok (.aload_n 0, 1) := by decide +kernel
theorem dX10_readFloor_1 : decode cX10_readFloor 1 = .ok (.aload_n 0, 1) := by decide +kernel
theorem dX10_readFloor_11 : decode cX10_readFloor 11 = .ok (.iconst 5, 1) := by decide +kernel
theorem dX10_readFloor_12 : decode cX10_readFloor 12 = .ok (.invokevirtual 89, 3) := by decide +kernel
theorem dX10_readFloor_15 : decode cX10_readFloor 15 = .ok (.aload_n 0, 1) := by decide +kernel
theorem dX10_readFloor_16 : decode cX10_readFloor 16 = .ok (.invokevirtual 110, 3) := by decide +kernel
theorem dX10_readFloor_19 : decode cX10_readFloor 19 = .ok (.istore_n 1, 1) := by decide +kernel
theorem dX10_readFloor_2 : decode cX10_readFloor 2 = .ok (.getfield 19, 3) := by decide +kernel
theorem dX10_readFloor_20 : decode cX10_readFloor 20 = .ok (.aload_n 0, 1) := by decide +kernel
theorem dX10_readFloor_21 : decode cX10_readFloor 21 = .ok (.getfield 15, 3) := by decide +kernel
theorem dX10_readFloor_24 : decode cX10_readFloor 24 = .ok (.iconst 1, 1) := by decide +kernel
theorem dX10_readFloor_25 : decode cX10_readFloor 25 = .ok (.invokevirtual 114, 3) := by decide +kernel
theorem dX10_readFloor_28 : decode cX10_readFloor 28 = .ok (.aload_n 0, 1) := by decide +kernel
theorem dX10_readFloor_29 : decode cX10_readFloor 29 = .ok (.bipush 20, 2) := by decide +kernel
theorem dX10_readFloor_31 : decode cX10_readFloor 31 = .ok (.invokevirtual 117, 3) := by decide +kernel
theorem dX10_readFloor_34 : decode cX10_readFloor 34 = .ok (.istore_n 2, 1) := by decide +kernel
theorem dX10_readFloor_35 : decode cX10_readFloor 35 = .ok (.aload_n 0, 1) := by decide +kernel
theorem dX10_readFloor_36 : decode cX10_readFloor 36 = .ok (.getfield 15, 3) := by decide +kernel
theorem dX10_readFloor_39 : decode cX10_readFloor 39 = .ok (.iconst 2, 1) := by decide +kernel
theorem dX10_readFloor_40 : decode cX10_readFloor 40 = .ok (.invokevirtual 114, 3) := by decide +kernel
theorem dX10_readFloor_43 : decode cX10_readFloor 43 = .ok (.aload_n 0, 1) := by decide +kernel
theorem dX10_readFloor_44 : decode cX10_readFloor 44 = .ok (.bipush 99, 2) := by decide +kernel
theorem dX10_readFloor_46 : decode cX10_readFloor 46 = .ok (.invokevirtual 117, 3) := by decide +kernel
theorem dX10_readFloor_49 : decode cX10_readFloor 49 = .ok (.istore_n 3, 1) := by decide +kernel
theorem dX10_readFloor_5 : decode cX10_readFloor 5 = .ok (.getfield 103, 3) := by decide +kernel
theorem dX10_readFloor_50 : decode cX10_readFloor 50 = .ok (.aload_n 0, 1) := by decide +kernel
theorem dX10_readFloor_51 : decode cX10_readFloor 51 = .ok (.getfield 15, 3) := by decide +kernel
theorem dX10_readFloor_54 : decode cX10_readFloor 54 = .ok (.iconst 3, 1) := by decide +kernel
theorem dX10_readFloor_55 : decode cX10_readFloor 55 = .ok (.invokevirtual 114, 3) := by decide +kernel
theorem dX10_readFloor_58 : decode cX10_readFloor 58 = .ok (.aload_n 0, 1) := by decide +kernel
theorem dX10_readFloor_59 : decode cX10_readFloor 59 = .ok (.sipush 999, 3) := by decide +kernel
theorem dX10_readFloor_62 : decode cX10_readFloor 62 = .ok (.invokevirtual 117, 3) := by decide +kernel
theorem dX10_readFloor_65 : decode cX10_readFloor 65 = .ok (.istore 4, 2) := by decide +kernel
theorem dX10_readFloor_67 : decode cX10_readFloor 67 = .ok (.aload_n 0, 1) := by decide +kernel
theorem dX10_readFloor_68 : decode cX10_readFloor 68 = .ok (.getfield 15, 3) := by decide +kernel
theorem dX10_readFloor_71 : decode cX10_readFloor 71 = .ok (.invokevirtual 121, 3) := by decide +kernel
theorem dX10_readFloor_74 : decode cX10_readFloor 74 = .ok (.ifCond .ne 18, 3) := by decide +kernel
theorem dX10_readFloor_77 : decode cX10_readFloor 77 = .ok (.aload_n 0, 1) := by decide +kernel
theorem dX10_readFloor_78 : decode cX10_readFloor 78 = .ok (.getfield 19, 3) := by decide +kernel
theorem dX10_readFloor_8 : decode cX10_readFloor 8 = .ok (.getfield 107, 3) := by decide +kernel
theorem dX10_readFloor_81 : decode cX10_readFloor 81 = .ok (.getfield 103, 3) := by decide +kernel
theorem dX10_readFloor_84 : decode cX10_readFloor 84 = .ok (.iload_n 1, 1) := by decide +kernel
theorem dX10_readFloor_85 : decode cX10_readFloor 85 = .ok (.iload_n 2, 1) := by decide +kernel
theorem dX10_readFloor_86 : decode cX10_readFloor 86 = .ok (.iload_n 3, 1) := by decide +kernel
theorem dX10_readFloor_87 : decode cX10_readFloor 87 = .ok (.iload 4, 2) := by decide +kernel
theorem dX10_readFloor_89 : decode cX10_readFloor 89 = .ok (.invokevirtual 125, 3) := by decide +kernel
theorem dX10_readFloor_92 : decode cX10_readFloor 92 = .ok (.return_, 1) := by decide +kernel
theorem dX10_readLikes_0 : decode cX10_readLikes 0 = .ok (.aload_n 0, 1) := by decide +kernel
theorem dX10_readLikes_1 : decode cX10_readLikes 1 = .ok (.getfield 15, 3) := by decide +kernel
theorem dX10_readLikes_11 : decode cX10_readLikes 11 = .ok (.istore_n 1, 1) := by decide +kernel
theorem dX10_readLikes_12 : decode cX10_readLikes 12 = .ok (.aload_n 0, 1) := by decide +kernel
theorem dX10_readLikes_13 : decode cX10_readLikes 13 = .ok (.invokevirtual 154, 3) := by decide +kernel
theorem dX10_readLikes_16 : decode cX10_readLikes 16 = .ok (.istore_n 2, 1) := by decide +kernel
theorem dX10_readLikes_17 : decode cX10_readLikes 17 = .ok (.aload_n 0, 1) := by decide +kernel
theorem dX10_readLikes_18 : decode cX10_readLikes 18 = .ok (.bipush 99, 2) := by decide +kernel
theorem dX10_readLikes_20 : decode cX10_readLikes 20 = .ok (.invokevirtual 117, 3) := by decide +kernel
theorem dX10_readLikes_23 : decode cX10_readLikes 23 = .ok (.istore_n 3, 1) := by decide +kernel
theorem dX10_readLikes_24 : decode cX10_readLikes 24 = .ok (.aload_n 0, 1) := by decide +kernel
theorem dX10_readLikes_25 : decode cX10_readLikes 25 = .ok (.getfield 15, 3) := by decide +kernel
theorem dX10_readLikes_28 : decode cX10_readLikes 28 = .ok (.invokevirtual 121, 3) := by decide +kernel
theorem dX10_readLikes_31 : decode cX10_readLikes 31 = .ok (.ifCond .ne 20, 3) := by decide +kernel
theorem dX10_readLikes_34 : decode cX10_readLikes 34 = .ok (.aload_n 0, 1) := by decide +kernel
theorem dX10_readLikes_35 : decode cX10_readLikes 35 = .ok (.getfield 19, 3) := by decide +kernel
theorem dX10_readLikes_38 : decode cX10_readLikes 38 = .ok (.getfield 135, 3) := by decide +kernel
theorem dX10_readLikes_4 : decode cX10_readLikes 4 = .ok (.invokevirtual 148, 3) := by decide +kernel
theorem dX10_readLikes_41 : decode cX10_readLikes 41 = .ok (.getfield 161, 3) := by decide +kernel
theorem dX10_readLikes_44 : decode cX10_readLikes 44 = .ok (.iload_n 1, 1) := by decide +kernel
theorem dX10_readLikes_45 : decode cX10_readLikes 45 = .ok (.iconst 5, 1) := by decide +kernel
theorem dX10_readLikes_46 : decode cX10_readLikes 46 = .ok (.imul, 1) := by decide +kernel
theorem dX10_readLikes_47 : decode cX10_readLikes 47 = .ok (.iload_n 2, 1) := by decide +kernel
theorem dX10_readLikes_48 : decode cX10_readLikes 48 = .ok (.iadd, 1) := by decide +kernel
theorem dX10_readLikes_49 : decode cX10_readLikes 49 = .ok (.iload_n 3, 1) := by decide +kernel
theorem dX10_readLikes_50 : decode cX10_readLikes 50 = .ok (.iastore, 1) := by decide +kernel
theorem dX10_readLikes_51 : decode cX10_readLikes 51 = .ok (.return_, 1) := by decide +kernel
theorem dX10_readLikes_7 : decode cX10_readLikes 7 = .ok (.aload_n 0, 1) := by decide +kernel
theorem dX10_readLikes_8 : decode cX10_readLikes 8 = .ok (.invokevirtual 151, 3) := by decide +kernel
theorem dX10_readMeet_0 : decode cX10_readMeet 0 = .ok (.aload_n 0, 1) := by decide +kernel
theorem dX10_readMeet_1 : decode cX10_readMeet 1 = .ok (.getfield 15, 3) := by decide +kernel
theorem dX10_readMeet_11 : decode cX10_readMeet 11 = .ok (.istore_n 1, 1) := by decide +kernel
theorem dX10_readMeet_12 : decode cX10_readMeet 12 = .ok (.aload_n 0, 1) := by decide +kernel
theorem dX10_readMeet_13 : decode cX10_readMeet 13 = .ok (.getfield 15, 3) := by decide +kernel
theorem dX10_readMeet_16 : decode cX10_readMeet 16 = .ok (.invokevirtual 121, 3) := by decide +kernel
theorem dX10_readMeet_19 : decode cX10_readMeet 19 = .ok (.ifCond .ne 13, 3) := by decide +kernel
theorem dX10_readMeet_22 : decode cX10_readMeet 22 = .ok (.aload_n 0, 1) := by decide +kernel
theorem dX10_readMeet_23 : decode cX10_readMeet 23 = .ok (.getfield 19, 3) := by decide +kernel
theorem dX10_readMeet_26 : decode cX10_readMeet 26 = .ok (.getfield 203, 3) := by decide +kernel
theorem dX10_readMeet_29 : decode cX10_readMeet 29 = .ok (.iload_n 1, 1) := by decide +kernel
theorem dX10_readMeet_30 : decode cX10_readMeet 30 = .ok (.iconst 1, 1) := by decide +kernel
theorem dX10_readMeet_31 : decode cX10_readMeet 31 = .ok (.bastore, 1) := by decide +kernel
theorem dX10_readMeet_32 : decode cX10_readMeet 32 = .ok (.return_, 1) := by decide +kernel
theorem dX10_readMeet_4 : decode cX10_readMeet 4 = .ok (.invokevirtual 148, 3) := by decide +kernel
theorem dX10_readMeet_7 : decode cX10_readMeet 7 = .ok (.aload_n 0, 1) := by decide +kernel
theorem dX10_readMeet_8 : decode cX10_readMeet 8 = .ok (.invokevirtual 142, 3) := by decide +kernel
theorem dX10_readOwn_0 : decode cX10_readOwn 0 = .ok (.aload_n 0, 1) := by decide +kernel
theorem dX10_readOwn_1 : decode cX10_readOwn 1 = .ok (.getfield 15, 3) := by decide +kernel
theorem dX10_readOwn_101 : decode cX10_readOwn 101 = .ok (.getfield 197, 3) := by decide +kernel
theorem dX10_readOwn_104 : decode cX10_readOwn 104 = .ok (.iload_n 2, 1) := by decide +kernel
theorem dX10_readOwn_105 : decode cX10_readOwn 105 = .ok (.iaload, 1) := by decide +kernel
theorem dX10_readOwn_106 : decode cX10_readOwn 106 = .ok (.if_icmp .lt 11, 3) := by decide +kernel
theorem dX10_readOwn_109 : decode cX10_readOwn 109 = .ok (.aload_n 0, 1) := by decide +kernel
theorem dX10_readOwn_11 : decode cX10_readOwn 11 = .ok (.istore_n 1, 1) := by decide +kernel
theorem dX10_readOwn_110 : decode cX10_readOwn 110 = .ok (.getfield 15, 3) := by decide +kernel
theorem dX10_readOwn_113 : decode cX10_readOwn 113 = .ok (.iconst 3, 1) := by decide +kernel
theorem dX10_readOwn_114 : decode cX10_readOwn 114 = .ok (.invokevirtual 97, 3) := by decide +kernel
theorem dX10_readOwn_117 : decode cX10_readOwn 117 = .ok (.aload_n 0, 1) := by decide +kernel
theorem dX10_readOwn_118 : decode cX10_readOwn 118 = .ok (.getfield 15, 3) := by decide +kernel
theorem dX10_readOwn_12 : decode cX10_readOwn 12 = .ok (.aload_n 0, 1) := by decide +kernel
theorem dX10_readOwn_121 : decode cX10_readOwn 121 = .ok (.invokevirtual 148, 3) := by decide +kernel
theorem dX10_readOwn_124 : decode cX10_readOwn 124 = .ok (.aload_n 0, 1) := by decide +kernel
theorem dX10_readOwn_125 : decode cX10_readOwn 125 = .ok (.getfield 15, 3) := by decide +kernel
theorem dX10_readOwn_128 : decode cX10_readOwn 128 = .ok (.invokevirtual 121, 3) := by decide +kernel
theorem dX10_readOwn_13 : decode cX10_readOwn 13 = .ok (.getfield 15, 3) := by decide +kernel
theorem dX10_readOwn_131 : decode cX10_readOwn 131 = .ok (.ifCond .ne 48, 3) := by decide +kernel
theorem dX10_readOwn_134 : decode cX10_readOwn 134 = .ok (.aload_n 0, 1) := by decide +kernel
theorem dX10_readOwn_135 : decode cX10_readOwn 135 = .ok (.getfield 19, 3) := by decide +kernel
theorem dX10_readOwn_138 : decode cX10_readOwn 138 = .ok (.getfield 135, 3) := by decide +kernel
theorem dX10_readOwn_141 : decode cX10_readOwn 141 = .ok (.getfield 182, 3) := by decide +kernel
theorem dX10_readOwn_144 : decode cX10_readOwn 144 = .ok (.iload_n 1, 1) := by decide +kernel
theorem dX10_readOwn_145 : decode cX10_readOwn 145 = .ok (.iload_n 2, 1) := by decide +kernel
theorem dX10_readOwn_146 : decode cX10_readOwn 146 = .ok (.iastore, 1) := by decide +kernel
theorem dX10_readOwn_147 : decode cX10_readOwn 147 = .ok (.aload_n 0, 1) := by decide +kernel
theorem dX10_readOwn_148 : decode cX10_readOwn 148 = .ok (.getfield 19, 3) := by decide +kernel
theorem dX10_readOwn_151 : decode cX10_readOwn 151 = .ok (.getfield 103, 3) := by decide +kernel
theorem dX10_readOwn_154 : decode cX10_readOwn 154 = .ok (.getfield 194, 3) := by decide +kernel
theorem dX10_readOwn_157 : decode cX10_readOwn 157 = .ok (.iload_n 2, 1) := by decide +kernel
theorem dX10_readOwn_158 : decode cX10_readOwn 158 = .ok (.dup2, 1) := by decide +kernel
theorem dX10_readOwn_159 : decode cX10_readOwn 159 = .ok (.iaload, 1) := by decide +kernel
theorem dX10_readOwn_16 : decode cX10_readOwn 16 = .ok (.invokevirtual 121, 3) := by decide +kernel
theorem dX10_readOwn_160 : decode cX10_readOwn 160 = .ok (.iconst 1, 1) := by decide +kernel
theorem dX10_readOwn_161 : decode cX10_readOwn 161 = .ok (.iadd, 1) := by decide +kernel
theorem dX10_readOwn_162 : decode cX10_readOwn 162 = .ok (.iastore, 1) := by decide +kernel
theorem dX10_readOwn_163 : decode cX10_readOwn 163 = .ok (.aload_n 0, 1) := by decide +kernel
theorem dX10_readOwn_164 : decode cX10_readOwn 164 = .ok (.getfield 19, 3) := by decide +kernel
theorem dX10_readOwn_167 : decode cX10_readOwn 167 = .ok (.getfield 103, 3) := by decide +kernel
theorem dX10_readOwn_170 : decode cX10_readOwn 170 = .ok (.dup, 1) := by decide +kernel
theorem dX10_readOwn_171 : decode cX10_readOwn 171 = .ok (.getfield 200, 3) := by decide +kernel
theorem dX10_readOwn_174 : decode cX10_readOwn 174 = .ok (.iconst 1, 1) := by decide +kernel
theorem dX10_readOwn_175 : decode cX10_readOwn 175 = .ok (.iadd, 1) := by decide +kernel
theorem dX10_readOwn_176 : decode cX10_readOwn 176 = .ok (.putfield 200, 3) := by decide +kernel
theorem dX10_readOwn_179 : decode cX10_readOwn 179 = .ok (.return_, 1) := by decide +kernel
theorem dX10_readOwn_19 : decode cX10_readOwn 19 = .ok (.ifCond .ne 27, 3) := by decide +kernel
theorem dX10_readOwn_22 : decode cX10_readOwn 22 = .ok (.aload_n 0, 1) := by decide +kernel
theorem dX10_readOwn_23 : decode cX10_readOwn 23 = .ok (.getfield 19, 3) := by decide +kernel
theorem dX10_readOwn_26 : decode cX10_readOwn 26 = .ok (.getfield 135, 3) := by decide +kernel
theorem dX10_readOwn_29 : decode cX10_readOwn 29 = .ok (.getfield 182, 3) := by decide +kernel
theorem dX10_readOwn_32 : decode cX10_readOwn 32 = .ok (.iload_n 1, 1) := by decide +kernel
theorem dX10_readOwn_33 : decode cX10_readOwn 33 = .ok (.iaload, 1) := by decide +kernel
theorem dX10_readOwn_34 : decode cX10_readOwn 34 = .ok (.iconst (-1), 1) := by decide +kernel
theorem dX10_readOwn_35 : decode cX10_readOwn 35 = .ok (.if_icmp .eq 11, 3) := by decide +kernel
theorem dX10_readOwn_38 : decode cX10_readOwn 38 = .ok (.aload_n 0, 1) := by decide +kernel
theorem dX10_readOwn_39 : decode cX10_readOwn 39 = .ok (.getfield 15, 3) := by decide +kernel
theorem dX10_readOwn_4 : decode cX10_readOwn 4 = .ok (.invokevirtual 148, 3) := by decide +kernel
theorem dX10_readOwn_42 : decode cX10_readOwn 42 = .ok (.iconst 3, 1) := by decide +kernel
theorem dX10_readOwn_43 : decode cX10_readOwn 43 = .ok (.invokevirtual 97, 3) := by decide +kernel
theorem dX10_readOwn_46 : decode cX10_readOwn 46 = .ok (.aload_n 0, 1) := by decide +kernel
theorem dX10_readOwn_47 : decode cX10_readOwn 47 = .ok (.getfield 15, 3) := by decide +kernel
theorem dX10_readOwn_50 : decode cX10_readOwn 50 = .ok (.invokevirtual 148, 3) := by decide +kernel
theorem dX10_readOwn_53 : decode cX10_readOwn 53 = .ok (.aload_n 0, 1) := by decide +kernel
theorem dX10_readOwn_54 : decode cX10_readOwn 54 = .ok (.aload_n 0, 1) := by decide +kernel
theorem dX10_readOwn_55 : decode cX10_readOwn 55 = .ok (.getfield 19, 3) := by decide +kernel
theorem dX10_readOwn_58 : decode cX10_readOwn 58 = .ok (.aload_n 0, 1) := by decide +kernel
theorem dX10_readOwn_59 : decode cX10_readOwn 59 = .ok (.getfield 15, 3) := by decide +kernel
theorem dX10_readOwn_62 : decode cX10_readOwn 62 = .ok (.getfield 185, 3) := by decide +kernel
theorem dX10_readOwn_65 : decode cX10_readOwn 65 = .ok (.invokevirtual 188, 3) := by decide +kernel
theorem dX10_readOwn_68 : decode cX10_readOwn 68 = .ok (.invokevirtual 191, 3) := by decide +kernel
theorem dX10_readOwn_7 : decode cX10_readOwn 7 = .ok (.aload_n 0, 1) := by decide +kernel
theorem dX10_readOwn_71 : decode cX10_readOwn 71 = .ok (.istore_n 2, 1) := by decide +kernel
theorem dX10_readOwn_72 : decode cX10_readOwn 72 = .ok (.aload_n 0, 1) := by decide +kernel
theorem dX10_readOwn_73 : decode cX10_readOwn 73 = .ok (.getfield 15, 3) := by decide +kernel
theorem dX10_readOwn_76 : decode cX10_readOwn 76 = .ok (.invokevirtual 121, 3) := by decide +kernel
theorem dX10_readOwn_79 : decode cX10_readOwn 79 = .ok (.ifCond .ne 38, 3) := by decide +kernel
theorem dX10_readOwn_8 : decode cX10_readOwn 8 = .ok (.invokevirtual 167, 3) := by decide +kernel
theorem dX10_readOwn_82 : decode cX10_readOwn 82 = .ok (.aload_n 0, 1) := by decide +kernel
theorem dX10_readOwn_83 : decode cX10_readOwn 83 = .ok (.getfield 19, 3) := by decide +kernel
theorem dX10_readOwn_86 : decode cX10_readOwn 86 = .ok (.getfield 103, 3) := by decide +kernel
theorem dX10_readOwn_89 : decode cX10_readOwn 89 = .ok (.getfield 194, 3) := by decide +kernel
theorem dX10_readOwn_92 : decode cX10_readOwn 92 = .ok (.iload_n 2, 1) := by decide +kernel
theorem dX10_readOwn_93 : decode cX10_readOwn 93 = .ok (.iaload, 1) := by decide +kernel
theorem dX10_readOwn_94 : decode cX10_readOwn 94 = .ok (.aload_n 0, 1) := by decide +kernel
theorem dX10_readOwn_95 : decode cX10_readOwn 95 = .ok (.getfield 19, 3) := by decide +kernel
theorem dX10_readOwn_98 : decode cX10_readOwn 98 = .ok (.getfield 103, 3) := by decide +kernel
theorem dX10_readPerson_0 : decode cX10_readPerson 0 = .ok (.aload_n 0, 1) := by decide +kernel
theorem dX10_readPerson_1 : decode cX10_readPerson 1 = .ok (.aload_n 0, 1) := by decide +kernel
theorem dX10_readPerson_11 : decode cX10_readPerson 11 = .ok (.bipush 12, 2) := by decide +kernel
theorem dX10_readPerson_13 : decode cX10_readPerson 13 = .ok (.invokevirtual 89, 3) := by decide +kernel
theorem dX10_readPerson_16 : decode cX10_readPerson 16 = .ok (.aload_n 0, 1) := by decide +kernel
theorem dX10_readPerson_17 : decode cX10_readPerson 17 = .ok (.invokevirtual 110, 3) := by decide +kernel
theorem dX10_readPerson_2 : decode cX10_readPerson 2 = .ok (.getfield 19, 3) := by decide +kernel
theorem dX10_readPerson_20 : decode cX10_readPerson 20 = .ok (.istore_n 1, 1) := by decide +kernel
theorem dX10_readPerson_21 : decode cX10_readPerson 21 = .ok (.aload_n 0, 1) := by decide +kernel
theorem dX10_readPerson_22 : decode cX10_readPerson 22 = .ok (.getfield 15, 3) := by decide +kernel
theorem dX10_readPerson_25 : decode cX10_readPerson 25 = .ok (.iconst 4, 1) := by decide +kernel
theorem dX10_readPerson_26 : decode cX10_readPerson 26 = .ok (.invokevirtual 114, 3) := by decide +kernel
theorem dX10_readPerson_29 : decode cX10_readPerson 29 = .ok (.aload_n 0, 1) := by decide +kernel
theorem dX10_readPerson_30 : decode cX10_readPerson 30 = .ok (.invokevirtual 142, 3) := by decide +kernel
theorem dX10_readPerson_33 : decode cX10_readPerson 33 = .ok (.istore_n 2, 1) := by decide +kernel
theorem dX10_readPerson_34 : decode cX10_readPerson 34 = .ok (.aload_n 0, 1) := by decide +kernel
theorem dX10_readPerson_35 : decode cX10_readPerson 35 = .ok (.getfield 15, 3) := by decide +kernel
theorem dX10_readPerson_38 : decode cX10_readPerson 38 = .ok (.bipush 6, 2) := by decide +kernel
theorem dX10_readPerson_40 : decode cX10_readPerson 40 = .ok (.invokevirtual 114, 3) := by decide +kernel
theorem dX10_readPerson_43 : decode cX10_readPerson 43 = .ok (.aload_n 0, 1) := by decide +kernel
theorem dX10_readPerson_44 : decode cX10_readPerson 44 = .ok (.iconst 5, 1) := by decide +kernel
theorem dX10_readPerson_45 : decode cX10_readPerson 45 = .ok (.invokevirtual 117, 3) := by decide +kernel
theorem dX10_readPerson_48 : decode cX10_readPerson 48 = .ok (.istore_n 3, 1) := by decide +kernel
theorem dX10_readPerson_49 : decode cX10_readPerson 49 = .ok (.aload_n 0, 1) := by decide +kernel
theorem dX10_readPerson_5 : decode cX10_readPerson 5 = .ok (.getfield 135, 3) := by decide +kernel
theorem dX10_readPerson_50 : decode cX10_readPerson 50 = .ok (.getfield 15, 3) := by decide +kernel
theorem dX10_readPerson_53 : decode cX10_readPerson 53 = .ok (.invokevirtual 121, 3) := by decide +kernel
theorem dX10_readPerson_56 : decode cX10_readPerson 56 = .ok (.ifCond .ne 16, 3) := by decide +kernel
theorem dX10_readPerson_59 : decode cX10_readPerson 59 = .ok (.aload_n 0, 1) := by decide +kernel
theorem dX10_readPerson_60 : decode cX10_readPerson 60 = .ok (.getfield 19, 3) := by decide +kernel
theorem dX10_readPerson_63 : decode cX10_readPerson 63 = .ok (.getfield 135, 3) := by decide +kernel
theorem dX10_readPerson_66 : decode cX10_readPerson 66 = .ok (.iload_n 1, 1) := by decide +kernel
theorem dX10_readPerson_67 : decode cX10_readPerson 67 = .ok (.iload_n 2, 1) := by decide +kernel
theorem dX10_readPerson_68 : decode cX10_readPerson 68 = .ok (.iload_n 3, 1) := by decide +kernel
theorem dX10_readPerson_69 : decode cX10_readPerson 69 = .ok (.invokevirtual 145, 3) := by decide +kernel
theorem dX10_readPerson_72 : decode cX10_readPerson 72 = .ok (.return_, 1) := by decide +kernel
theorem dX10_readPerson_8 : decode cX10_readPerson 8 = .ok (.getfield 139, 3) := by decide +kernel
theorem dX10_readStand_0 : decode cX10_readStand 0 = .ok (.aload_n 0, 1) := by decide +kernel
theorem dX10_readStand_1 : decode cX10_readStand 1 = .ok (.getfield 15, 3) := by decide +kernel
theorem dX10_readStand_11 : decode cX10_readStand 11 = .ok (.invokevirtual 117, 3) := by decide +kernel
theorem dX10_readStand_14 : decode cX10_readStand 14 = .ok (.istore_n 1, 1) := by decide +kernel
theorem dX10_readStand_15 : decode cX10_readStand 15 = .ok (.aload_n 0, 1) := by decide +kernel
theorem dX10_readStand_16 : decode cX10_readStand 16 = .ok (.getfield 15, 3) := by decide +kernel
theorem dX10_readStand_19 : decode cX10_readStand 19 = .ok (.invokevirtual 121, 3) := by decide +kernel
theorem dX10_readStand_22 : decode cX10_readStand 22 = .ok (.ifCond .ne 11, 3) := by decide +kernel
theorem dX10_readStand_25 : decode cX10_readStand 25 = .ok (.aload_n 0, 1) := by decide +kernel
theorem dX10_readStand_26 : decode cX10_readStand 26 = .ok (.getfield 19, 3) := by decide +kernel
theorem dX10_readStand_29 : decode cX10_readStand 29 = .ok (.iload_n 1, 1) := by decide +kernel
theorem dX10_readStand_30 : decode cX10_readStand 30 = .ok (.putfield 210, 3) := by decide +kernel
theorem dX10_readStand_33 : decode cX10_readStand 33 = .ok (.return_, 1) := by decide +kernel
theorem dX10_readStand_4 : decode cX10_readStand 4 = .ok (.invokevirtual 148, 3) := by decide +kernel
theorem dX10_readStand_7 : decode cX10_readStand 7 = .ok (.aload_n 0, 1) := by decide +kernel
theorem dX10_readStand_8 : decode cX10_readStand 8 = .ok (.sipush 999, 3) := by decide +kernel
theorem dX10_readTeam_0 : decode cX10_readTeam 0 = .ok (.aload_n 0, 1) := by decide +kernel
theorem dX10_readTeam_1 : decode cX10_readTeam 1 = .ok (.aload_n 0, 1) := by decide +kernel
theorem dX10_readTeam_10 : decode cX10_readTeam 10 = .ok (.invokevirtual 89, 3) := by decide +kernel
theorem dX10_readTeam_13 : decode cX10_readTeam 13 = .ok (.aload_n 0, 1) := by decide +kernel
theorem dX10_readTeam_14 : decode cX10_readTeam 14 = .ok (.invokevirtual 110, 3) := by decide +kernel
theorem dX10_readTeam_17 : decode cX10_readTeam 17 = .ok (.istore_n 1, 1) := by decide +kernel
theorem dX10_readTeam_18 : decode cX10_readTeam 18 = .ok (.aload_n 0, 1) := by decide +kernel
theorem dX10_readTeam_19 : decode cX10_readTeam 19 = .ok (.getfield 15, 3) := by decide +kernel
theorem dX10_readTeam_2 : decode cX10_readTeam 2 = .ok (.getfield 19, 3) := by decide +kernel
theorem dX10_readTeam_22 : decode cX10_readTeam 22 = .ok (.invokevirtual 121, 3) := by decide +kernel
theorem dX10_readTeam_25 : decode cX10_readTeam 25 = .ok (.ifCond .ne 11, 3) := by decide +kernel
theorem dX10_readTeam_28 : decode cX10_readTeam 28 = .ok (.aload_n 0, 1) := by decide +kernel
theorem dX10_readTeam_29 : decode cX10_readTeam 29 = .ok (.getfield 19, 3) := by decide +kernel
theorem dX10_readTeam_32 : decode cX10_readTeam 32 = .ok (.iload_n 1, 1) := by decide +kernel
theorem dX10_readTeam_33 : decode cX10_readTeam 33 = .ok (.invokevirtual 132, 3) := by decide +kernel
theorem dX10_readTeam_36 : decode cX10_readTeam 36 = .ok (.return_, 1) := by decide +kernel
theorem dX10_readTeam_5 : decode cX10_readTeam 5 = .ok (.getfield 129, 3) := by decide +kernel
theorem dX10_readTeam_8 : decode cX10_readTeam 8 = .ok (.bipush 6, 2) := by decide +kernel
theorem dX10_readTie_0 : decode cX10_readTie 0 = .ok (.aload_n 0, 1) := by decide +kernel
theorem dX10_readTie_1 : decode cX10_readTie 1 = .ok (.aload_n 0, 1) := by decide +kernel
theorem dX10_readTie_10 : decode cX10_readTie 10 = .ok (.invokevirtual 89, 3) := by decide +kernel
theorem dX10_readTie_13 : decode cX10_readTie 13 = .ok (.aload_n 0, 1) := by decide +kernel
theorem dX10_readTie_14 : decode cX10_readTie 14 = .ok (.invokevirtual 151, 3) := by decide +kernel
theorem dX10_readTie_17 : decode cX10_readTie 17 = .ok (.istore_n 1, 1) := by decide +kernel
theorem dX10_readTie_18 : decode cX10_readTie 18 = .ok (.aload_n 0, 1) := by decide +kernel
theorem dX10_readTie_19 : decode cX10_readTie 19 = .ok (.invokevirtual 167, 3) := by decide +kernel
theorem dX10_readTie_2 : decode cX10_readTie 2 = .ok (.getfield 19, 3) := by decide +kernel
theorem dX10_readTie_22 : decode cX10_readTie 22 = .ok (.istore_n 2, 1) := by decide +kernel
theorem dX10_readTie_23 : decode cX10_readTie 23 = .ok (.iload_n 1, 1) := by decide +kernel
theorem dX10_readTie_24 : decode cX10_readTie 24 = .ok (.iload_n 2, 1) := by decide +kernel
theorem dX10_readTie_25 : decode cX10_readTie 25 = .ok (.if_icmp .ne 11, 3) := by decide +kernel
theorem dX10_readTie_28 : decode cX10_readTie 28 = .ok (.aload_n 0, 1) := by decide +kernel
theorem dX10_readTie_29 : decode cX10_readTie 29 = .ok (.getfield 15, 3) := by decide +kernel
theorem dX10_readTie_32 : decode cX10_readTie 32 = .ok (.iconst 3, 1) := by decide +kernel
theorem dX10_readTie_33 : decode cX10_readTie 33 = .ok (.invokevirtual 97, 3) := by decide +kernel
theorem dX10_readTie_36 : decode cX10_readTie 36 = .ok (.aload_n 0, 1) := by decide +kernel
theorem dX10_readTie_37 : decode cX10_readTie 37 = .ok (.getfield 15, 3) := by decide +kernel
theorem dX10_readTie_40 : decode cX10_readTie 40 = .ok (.invokevirtual 148, 3) := by decide +kernel
theorem dX10_readTie_43 : decode cX10_readTie 43 = .ok (.aload_n 0, 1) := by decide +kernel
theorem dX10_readTie_44 : decode cX10_readTie 44 = .ok (.bipush 99, 2) := by decide +kernel
theorem dX10_readTie_46 : decode cX10_readTie 46 = .ok (.invokevirtual 117, 3) := by decide +kernel
theorem dX10_readTie_49 : decode cX10_readTie 49 = .ok (.istore_n 3, 1) := by decide +kernel
theorem dX10_readTie_5 : decode cX10_readTie 5 = .ok (.getfield 164, 3) := by decide +kernel
theorem dX10_readTie_50 : decode cX10_readTie 50 = .ok (.aload_n 0, 1) := by decide +kernel
theorem dX10_readTie_51 : decode cX10_readTie 51 = .ok (.getfield 15, 3) := by decide +kernel
theorem dX10_readTie_54 : decode cX10_readTie 54 = .ok (.invokevirtual 121, 3) := by decide +kernel
theorem dX10_readTie_57 : decode cX10_readTie 57 = .ok (.ifCond .ne 13, 3) := by decide +kernel
theorem dX10_readTie_60 : decode cX10_readTie 60 = .ok (.aload_n 0, 1) := by decide +kernel
theorem dX10_readTie_61 : decode cX10_readTie 61 = .ok (.getfield 19, 3) := by decide +kernel
theorem dX10_readTie_64 : decode cX10_readTie 64 = .ok (.iload_n 1, 1) := by decide +kernel
theorem dX10_readTie_65 : decode cX10_readTie 65 = .ok (.iload_n 2, 1) := by decide +kernel
theorem dX10_readTie_66 : decode cX10_readTie 66 = .ok (.iload_n 3, 1) := by decide +kernel
theorem dX10_readTie_67 : decode cX10_readTie 67 = .ok (.invokevirtual 170, 3) := by decide +kernel
theorem dX10_readTie_70 : decode cX10_readTie 70 = .ok (.return_, 1) := by decide +kernel
theorem dX10_readTie_8 : decode cX10_readTie 8 = .ok (.bipush 30, 2) := by decide +kernel
theorem dX10_readTurns_0 : decode cX10_readTurns 0 = .ok (.aload_n 0, 1) := by decide +kernel
theorem dX10_readTurns_1 : decode cX10_readTurns 1 = .ok (.getfield 15, 3) := by decide +kernel
theorem dX10_readTurns_11 : decode cX10_readTurns 11 = .ok (.istore_n 1, 1) := by decide +kernel
theorem dX10_readTurns_12 : decode cX10_readTurns 12 = .ok (.aload_n 0, 1) := by decide +kernel
theorem dX10_readTurns_13 : decode cX10_readTurns 13 = .ok (.iconst 4, 1) := by decide +kernel
theorem dX10_readTurns_14 : decode cX10_readTurns 14 = .ok (.invokevirtual 117, 3) := by decide +kernel
theorem dX10_readTurns_17 : decode cX10_readTurns 17 = .ok (.istore_n 2, 1) := by decide +kernel
theorem dX10_readTurns_18 : decode cX10_readTurns 18 = .ok (.aload_n 0, 1) := by decide +kernel
theorem dX10_readTurns_19 : decode cX10_readTurns 19 = .ok (.getfield 15, 3) := by decide +kernel
theorem dX10_readTurns_22 : decode cX10_readTurns 22 = .ok (.invokevirtual 121, 3) := by decide +kernel
theorem dX10_readTurns_25 : decode cX10_readTurns 25 = .ok (.ifCond .ne 16, 3) := by decide +kernel
theorem dX10_readTurns_28 : decode cX10_readTurns 28 = .ok (.aload_n 0, 1) := by decide +kernel
theorem dX10_readTurns_29 : decode cX10_readTurns 29 = .ok (.getfield 19, 3) := by decide +kernel
theorem dX10_readTurns_32 : decode cX10_readTurns 32 = .ok (.getfield 135, 3) := by decide +kernel
theorem dX10_readTurns_35 : decode cX10_readTurns 35 = .ok (.getfield 207, 3) := by decide +kernel
theorem dX10_readTurns_38 : decode cX10_readTurns 38 = .ok (.iload_n 1, 1) := by decide +kernel
theorem dX10_readTurns_39 : decode cX10_readTurns 39 = .ok (.iload_n 2, 1) := by decide +kernel
theorem dX10_readTurns_4 : decode cX10_readTurns 4 = .ok (.invokevirtual 148, 3) := by decide +kernel
theorem dX10_readTurns_40 : decode cX10_readTurns 40 = .ok (.iastore, 1) := by decide +kernel
theorem dX10_readTurns_41 : decode cX10_readTurns 41 = .ok (.return_, 1) := by decide +kernel
theorem dX10_readTurns_7 : decode cX10_readTurns 7 = .ok (.aload_n 0, 1) := by decide +kernel
theorem dX10_readTurns_8 : decode cX10_readTurns 8 = .ok (.invokevirtual 151, 3) := by decide +kernel
theorem dX10_readVisit_0 : decode cX10_readVisit 0 = .ok (.aload_n 0, 1) := by decide +kernel
theorem dX10_readVisit_1 : decode cX10_readVisit 1 = .ok (.getfield 15, 3) := by decide +kernel
theorem dX10_readVisit_11 : decode cX10_readVisit 11 = .ok (.istore_n 1, 1) := by decide +kernel
theorem dX10_readVisit_12 : decode cX10_readVisit 12 = .ok (.aload_n 0, 1) := by decide +kernel
theorem dX10_readVisit_13 : decode cX10_readVisit 13 = .ok (.bipush 9, 2) := by decide +kernel
theorem dX10_readVisit_15 : decode cX10_readVisit 15 = .ok (.invokevirtual 117, 3) := by decide +kernel
theorem dX10_readVisit_18 : decode cX10_readVisit 18 = .ok (.istore_n 2, 1) := by decide +kernel
theorem dX10_readVisit_19 : decode cX10_readVisit 19 = .ok (.aload_n 0, 1) := by decide +kernel
theorem dX10_readVisit_20 : decode cX10_readVisit 20 = .ok (.bipush 100, 2) := by decide +kernel
theorem dX10_readVisit_22 : decode cX10_readVisit 22 = .ok (.invokevirtual 117, 3) := by decide +kernel
theorem dX10_readVisit_25 : decode cX10_readVisit 25 = .ok (.istore_n 3, 1) := by decide +kernel
theorem dX10_readVisit_26 : decode cX10_readVisit 26 = .ok (.aload_n 0, 1) := by decide +kernel
theorem dX10_readVisit_27 : decode cX10_readVisit 27 = .ok (.getfield 15, 3) := by decide +kernel
theorem dX10_readVisit_30 : decode cX10_readVisit 30 = .ok (.invokevirtual 121, 3) := by decide +kernel
theorem dX10_readVisit_33 : decode cX10_readVisit 33 = .ok (.ifCond .ne 23, 3) := by decide +kernel
theorem dX10_readVisit_36 : decode cX10_readVisit 36 = .ok (.aload_n 0, 1) := by decide +kernel
theorem dX10_readVisit_37 : decode cX10_readVisit 37 = .ok (.getfield 19, 3) := by decide +kernel
theorem dX10_readVisit_4 : decode cX10_readVisit 4 = .ok (.invokevirtual 148, 3) := by decide +kernel
theorem dX10_readVisit_40 : decode cX10_readVisit 40 = .ok (.getfield 176, 3) := by decide +kernel
theorem dX10_readVisit_43 : decode cX10_readVisit 43 = .ok (.iload_n 1, 1) := by decide +kernel
theorem dX10_readVisit_44 : decode cX10_readVisit 44 = .ok (.iload_n 2, 1) := by decide +kernel
theorem dX10_readVisit_45 : decode cX10_readVisit 45 = .ok (.iastore, 1) := by decide +kernel
theorem dX10_readVisit_46 : decode cX10_readVisit 46 = .ok (.aload_n 0, 1) := by decide +kernel
theorem dX10_readVisit_47 : decode cX10_readVisit 47 = .ok (.getfield 19, 3) := by decide +kernel
theorem dX10_readVisit_50 : decode cX10_readVisit 50 = .ok (.getfield 179, 3) := by decide +kernel
theorem dX10_readVisit_53 : decode cX10_readVisit 53 = .ok (.iload_n 1, 1) := by decide +kernel
theorem dX10_readVisit_54 : decode cX10_readVisit 54 = .ok (.iload_n 3, 1) := by decide +kernel
theorem dX10_readVisit_55 : decode cX10_readVisit 55 = .ok (.iastore, 1) := by decide +kernel
theorem dX10_readVisit_56 : decode cX10_readVisit 56 = .ok (.return_, 1) := by decide +kernel
theorem dX10_readVisit_7 : decode cX10_readVisit 7 = .ok (.aload_n 0, 1) := by decide +kernel
theorem dX10_readVisit_8 : decode cX10_readVisit 8 = .ok (.invokevirtual 154, 3) := by decide +kernel
theorem dX10_takeDay_0 : decode cX10_takeDay 0 = .ok (.aload_n 0, 1) := by decide +kernel
theorem dX10_takeDay_1 : decode cX10_takeDay 1 = .ok (.getfield 15, 3) := by decide +kernel
theorem dX10_takeDay_10 : decode cX10_takeDay 10 = .ok (.istore_n 1, 1) := by decide +kernel
theorem dX10_takeDay_11 : decode cX10_takeDay 11 = .ok (.iload_n 1, 1) := by decide +kernel
theorem dX10_takeDay_12 : decode cX10_takeDay 12 = .ok (.invokestatic 226, 3) := by decide +kernel
theorem dX10_takeDay_15 : decode cX10_takeDay 15 = .ok (.ifCond .ne 11, 3) := by decide +kernel
theorem dX10_takeDay_18 : decode cX10_takeDay 18 = .ok (.aload_n 0, 1) := by decide +kernel
theorem dX10_takeDay_19 : decode cX10_takeDay 19 = .ok (.getfield 15, 3) := by decide +kernel
theorem dX10_takeDay_22 : decode cX10_takeDay 22 = .ok (.iconst 1, 1) := by decide +kernel
theorem dX10_takeDay_23 : decode cX10_takeDay 23 = .ok (.invokevirtual 97, 3) := by decide +kernel
theorem dX10_takeDay_26 : decode cX10_takeDay 26 = .ok (.aload_n 0, 1) := by decide +kernel
theorem dX10_takeDay_27 : decode cX10_takeDay 27 = .ok (.getfield 15, 3) := by decide +kernel
theorem dX10_takeDay_30 : decode cX10_takeDay 30 = .ok (.invokevirtual 148, 3) := by decide +kernel
theorem dX10_takeDay_33 : decode cX10_takeDay 33 = .ok (.iload_n 1, 1) := by decide +kernel
theorem dX10_takeDay_34 : decode cX10_takeDay 34 = .ok (.ireturn, 1) := by decide +kernel
theorem dX10_takeDay_4 : decode cX10_takeDay 4 = .ok (.getfield 47, 3) := by decide +kernel
theorem dX10_takeDay_7 : decode cX10_takeDay 7 = .ok (.bipush 17, 2) := by decide +kernel
theorem dX10_takeDay_9 : decode cX10_takeDay 9 = .ok (.isub, 1) := by decide +kernel
theorem dX10_takeNewName_0 : decode cX10_takeNewName 0 = .ok (.aload_n 0, 1) := by decide +kernel
theorem dX10_takeNewName_1 : decode cX10_takeNewName 1 = .ok (.getfield 15, 3) := by decide +kernel
theorem dX10_takeNewName_12 : decode cX10_takeNewName 12 = .ok (.invokevirtual 213, 3) := by decide +kernel
theorem dX10_takeNewName_15 : decode cX10_takeNewName 15 = .ok (.ifCond .ne 14, 3) := by decide +kernel
theorem dX10_takeNewName_18 : decode cX10_takeNewName 18 = .ok (.aload_n 0, 1) := by decide +kernel
theorem dX10_takeNewName_19 : decode cX10_takeNewName 19 = .ok (.getfield 15, 3) := by decide +kernel
theorem dX10_takeNewName_22 : decode cX10_takeNewName 22 = .ok (.iconst 1, 1) := by decide +kernel
theorem dX10_takeNewName_23 : decode cX10_takeNewName 23 = .ok (.invokevirtual 97, 3) := by decide +kernel
theorem dX10_takeNewName_26 : decode cX10_takeNewName 26 = .ok (.goto 22, 3) := by decide +kernel
theorem dX10_takeNewName_29 : decode cX10_takeNewName 29 = .ok (.aload_n 0, 1) := by decide +kernel
theorem dX10_takeNewName_30 : decode cX10_takeNewName 30 = .ok (.getfield 19, 3) := by decide +kernel
theorem dX10_takeNewName_33 : decode cX10_takeNewName 33 = .ok (.iload_n 1, 1) := by decide +kernel
theorem dX10_takeNewName_34 : decode cX10_takeNewName 34 = .ok (.invokevirtual 216, 3) := by decide +kernel
theorem dX10_takeNewName_37 : decode cX10_takeNewName 37 = .ok (.ifCond .eq 11, 3) := by decide +kernel
theorem dX10_takeNewName_4 : decode cX10_takeNewName 4 = .ok (.getfield 185, 3) := by decide +kernel
theorem dX10_takeNewName_40 : decode cX10_takeNewName 40 = .ok (.aload_n 0, 1) := by decide +kernel
theorem dX10_takeNewName_41 : decode cX10_takeNewName 41 = .ok (.getfield 15, 3) := by decide +kernel
theorem dX10_takeNewName_44 : decode cX10_takeNewName 44 = .ok (.iconst 2, 1) := by decide +kernel
theorem dX10_takeNewName_45 : decode cX10_takeNewName 45 = .ok (.invokevirtual 97, 3) := by decide +kernel
theorem dX10_takeNewName_48 : decode cX10_takeNewName 48 = .ok (.aload_n 0, 1) := by decide +kernel
theorem dX10_takeNewName_49 : decode cX10_takeNewName 49 = .ok (.getfield 15, 3) := by decide +kernel
theorem dX10_takeNewName_52 : decode cX10_takeNewName 52 = .ok (.invokevirtual 148, 3) := by decide +kernel
theorem dX10_takeNewName_55 : decode cX10_takeNewName 55 = .ok (.iload_n 1, 1) := by decide +kernel
theorem dX10_takeNewName_56 : decode cX10_takeNewName 56 = .ok (.ireturn, 1) := by decide +kernel
theorem dX10_takeNewName_7 : decode cX10_takeNewName 7 = .ok (.istore_n 1, 1) := by decide +kernel
theorem dX10_takeNewName_8 : decode cX10_takeNewName 8 = .ok (.aload_n 0, 1) := by decide +kernel
theorem dX10_takeNewName_9 : decode cX10_takeNewName 9 = .ok (.getfield 15, 3) := by decide +kernel
theorem dX10_takeNumber_0 : decode cX10_takeNumber 0 = .ok (.aload_n 0, 1) := by decide +kernel
theorem dX10_takeNumber_1 : decode cX10_takeNumber 1 = .ok (.getfield 15, 3) := by decide +kernel
theorem dX10_takeNumber_12 : decode cX10_takeNumber 12 = .ok (.invokevirtual 229, 3) := by decide +kernel
theorem dX10_takeNumber_15 : decode cX10_takeNumber 15 = .ok (.ifCond .ne 14, 3) := by decide +kernel
theorem dX10_takeNumber_18 : decode cX10_takeNumber 18 = .ok (.aload_n 0, 1) := by decide +kernel
theorem dX10_takeNumber_19 : decode cX10_takeNumber 19 = .ok (.getfield 15, 3) := by decide +kernel
theorem dX10_takeNumber_22 : decode cX10_takeNumber 22 = .ok (.iconst 1, 1) := by decide +kernel
theorem dX10_takeNumber_23 : decode cX10_takeNumber 23 = .ok (.invokevirtual 97, 3) := by decide +kernel
theorem dX10_takeNumber_26 : decode cX10_takeNumber 26 = .ok (.goto 16, 3) := by decide +kernel
theorem dX10_takeNumber_29 : decode cX10_takeNumber 29 = .ok (.iload_n 2, 1) := by decide +kernel
theorem dX10_takeNumber_30 : decode cX10_takeNumber 30 = .ok (.iload_n 1, 1) := by decide +kernel
theorem dX10_takeNumber_31 : decode cX10_takeNumber 31 = .ok (.if_icmp .le 11, 3) := by decide +kernel
theorem dX10_takeNumber_34 : decode cX10_takeNumber 34 = .ok (.aload_n 0, 1) := by decide +kernel
theorem dX10_takeNumber_35 : decode cX10_takeNumber 35 = .ok (.getfield 15, 3) := by decide +kernel
theorem dX10_takeNumber_38 : decode cX10_takeNumber 38 = .ok (.iconst 4, 1) := by decide +kernel
theorem dX10_takeNumber_39 : decode cX10_takeNumber 39 = .ok (.invokevirtual 97, 3) := by decide +kernel
theorem dX10_takeNumber_4 : decode cX10_takeNumber 4 = .ok (.getfield 185, 3) := by decide +kernel
theorem dX10_takeNumber_42 : decode cX10_takeNumber 42 = .ok (.aload_n 0, 1) := by decide +kernel
theorem dX10_takeNumber_43 : decode cX10_takeNumber 43 = .ok (.getfield 15, 3) := by decide +kernel
theorem dX10_takeNumber_46 : decode cX10_takeNumber 46 = .ok (.invokevirtual 148, 3) := by decide +kernel
theorem dX10_takeNumber_49 : decode cX10_takeNumber 49 = .ok (.iload_n 2, 1) := by decide +kernel
theorem dX10_takeNumber_50 : decode cX10_takeNumber 50 = .ok (.ireturn, 1) := by decide +kernel
theorem dX10_takeNumber_7 : decode cX10_takeNumber 7 = .ok (.istore_n 2, 1) := by decide +kernel
theorem dX10_takeNumber_8 : decode cX10_takeNumber 8 = .ok (.aload_n 0, 1) := by decide +kernel
theorem dX10_takeNumber_9 : decode cX10_takeNumber 9 = .ok (.getfield 15, 3) := by decide +kernel
theorem dX10_takePerson_0 : decode cX10_takePerson 0 = .ok (.aload_n 0, 1) := by decide +kernel
theorem dX10_takePerson_1 : decode cX10_takePerson 1 = .ok (.invokevirtual 167, 3) := by decide +kernel
theorem dX10_takePerson_12 : decode cX10_takePerson 12 = .ok (.iload_n 1, 1) := by decide +kernel
theorem dX10_takePerson_13 : decode cX10_takePerson 13 = .ok (.ireturn, 1) := by decide +kernel
theorem dX10_takePerson_4 : decode cX10_takePerson 4 = .ok (.istore_n 1, 1) := by decide +kernel
theorem dX10_takePerson_5 : decode cX10_takePerson 5 = .ok (.aload_n 0, 1) := by decide +kernel
theorem dX10_takePerson_6 : decode cX10_takePerson 6 = .ok (.getfield 15, 3) := by decide +kernel
theorem dX10_takePerson_9 : decode cX10_takePerson 9 = .ok (.invokevirtual 148, 3) := by decide +kernel
theorem dX10_takeTeam_0 : decode cX10_takeTeam 0 = .ok (.aload_n 0, 1) := by decide +kernel
theorem dX10_takeTeam_1 : decode cX10_takeTeam 1 = .ok (.aload_n 0, 1) := by decide +kernel
theorem dX10_takeTeam_12 : decode cX10_takeTeam 12 = .ok (.invokevirtual 223, 3) := by decide +kernel
theorem dX10_takeTeam_15 : decode cX10_takeTeam 15 = .ok (.invokevirtual 191, 3) := by decide +kernel
theorem dX10_takeTeam_18 : decode cX10_takeTeam 18 = .ok (.istore_n 1, 1) := by decide +kernel
theorem dX10_takeTeam_19 : decode cX10_takeTeam 19 = .ok (.aload_n 0, 1) := by decide +kernel
theorem dX10_takeTeam_2 : decode cX10_takeTeam 2 = .ok (.getfield 19, 3) := by decide +kernel
theorem dX10_takeTeam_20 : decode cX10_takeTeam 20 = .ok (.getfield 15, 3) := by decide +kernel
theorem dX10_takeTeam_23 : decode cX10_takeTeam 23 = .ok (.invokevirtual 148, 3) := by decide +kernel
theorem dX10_takeTeam_26 : decode cX10_takeTeam 26 = .ok (.iload_n 1, 1) := by decide +kernel
theorem dX10_takeTeam_27 : decode cX10_takeTeam 27 = .ok (.ireturn, 1) := by decide +kernel
theorem dX10_takeTeam_5 : decode cX10_takeTeam 5 = .ok (.aload_n 0, 1) := by decide +kernel
theorem dX10_takeTeam_6 : decode cX10_takeTeam 6 = .ok (.getfield 15, 3) := by decide +kernel
theorem dX10_takeTeam_9 : decode cX10_takeTeam 9 = .ok (.getfield 185, 3) := by decide +kernel
theorem dX11_addBytes_0 : decode cX11_addBytes 0 = .ok (.bipush 24, 2) := by decide +kernel
theorem dX11_addBytes_11 : decode cX11_addBytes 11 = .ok (.aload_n 0, 1) := by decide +kernel
theorem dX11_addBytes_12 : decode cX11_addBytes 12 = .ok (.getfield 9, 3) := by decide +kernel
theorem dX11_addBytes_15 : decode cX11_addBytes 15 = .ok (.arraylength, 1) := by decide +kernel
theorem dX11_addBytes_16 : decode cX11_addBytes 16 = .ok (.if_icmp .ge 35, 3) := by decide +kernel
theorem dX11_addBytes_19 : decode cX11_addBytes 19 = .ok (.aload_n 0, 1) := by decide +kernel
theorem dX11_addBytes_2 : decode cX11_addBytes 2 = .ok (.istore_n 2, 1) := by decide +kernel
theorem dX11_addBytes_20 : decode cX11_addBytes 20 = .ok (.getfield 9, 3) := by decide +kernel
theorem dX11_addBytes_23 : decode cX11_addBytes 23 = .ok (.aload_n 0, 1) := by decide +kernel
theorem dX11_addBytes_24 : decode cX11_addBytes 24 = .ok (.getfield 13, 3) := by decide +kernel
theorem dX11_addBytes_27 : decode cX11_addBytes 27 = .ok (.iload_n 1, 1) := by decide +kernel
theorem dX11_addBytes_28 : decode cX11_addBytes 28 = .ok (.iload_n 2, 1) := by decide +kernel
theorem dX11_addBytes_29 : decode cX11_addBytes 29 = .ok (.ishr, 1) := by decide +kernel
theorem dX11_addBytes_3 : decode cX11_addBytes 3 = .ok (.iload_n 2, 1) := by decide +kernel
theorem dX11_addBytes_30 : decode cX11_addBytes 30 = .ok (.sipush 255, 3) := by decide +kernel
theorem dX11_addBytes_33 : decode cX11_addBytes 33 = .ok (.iand, 1) := by decide +kernel
theorem dX11_addBytes_34 : decode cX11_addBytes 34 = .ok (.iastore, 1) := by decide +kernel
theorem dX11_addBytes_35 : decode cX11_addBytes 35 = .ok (.aload_n 0, 1) := by decide +kernel
theorem dX11_addBytes_36 : decode cX11_addBytes 36 = .ok (.dup, 1) := by decide +kernel
theorem dX11_addBytes_37 : decode cX11_addBytes 37 = .ok (.getfield 13, 3) := by decide +kernel
theorem dX11_addBytes_4 : decode cX11_addBytes 4 = .ok (.ifCond .lt 47, 3) := by decide +kernel
theorem dX11_addBytes_40 : decode cX11_addBytes 40 = .ok (.iconst 1, 1) := by decide +kernel
theorem dX11_addBytes_41 : decode cX11_addBytes 41 = .ok (.iadd, 1) := by decide +kernel
theorem dX11_addBytes_42 : decode cX11_addBytes 42 = .ok (.putfield 13, 3) := by decide +kernel
theorem dX11_addBytes_45 : decode cX11_addBytes 45 = .ok (.iinc 2 (-8), 3) := by decide +kernel
theorem dX11_addBytes_48 : decode cX11_addBytes 48 = .ok (.goto (-45), 3) := by decide +kernel
theorem dX11_addBytes_51 : decode cX11_addBytes 51 = .ok (.return_, 1) := by decide +kernel
theorem dX11_addBytes_7 : decode cX11_addBytes 7 = .ok (.aload_n 0, 1) := by decide +kernel
theorem dX11_addBytes_8 : decode cX11_addBytes 8 = .ok (.getfield 13, 3) := by decide +kernel
theorem dX11_alone_0 : decode cX11_alone 0 = .ok (.aload_n 0, 1) := by decide +kernel
theorem dX11_alone_1 : decode cX11_alone 1 = .ok (.iload_n 1, 1) := by decide +kernel
theorem dX11_alone_12 : decode cX11_alone 12 = .ok (.iload_n 1, 1) := by decide +kernel
theorem dX11_alone_13 : decode cX11_alone 13 = .ok (.aload_n 0, 1) := by decide +kernel
theorem dX11_alone_14 : decode cX11_alone 14 = .ok (.getfield 43, 3) := by decide +kernel
theorem dX11_alone_17 : decode cX11_alone 17 = .ok (.getfield 206, 3) := by decide +kernel
theorem dX11_alone_2 : decode cX11_alone 2 = .ok (.invokevirtual 184, 3) := by decide +kernel
theorem dX11_alone_20 : decode cX11_alone 20 = .ok (.iload_n 1, 1) := by decide +kernel
theorem dX11_alone_21 : decode cX11_alone 21 = .ok (.iaload, 1) := by decide +kernel
theorem dX11_alone_22 : decode cX11_alone 22 = .ok (.invokevirtual 344, 3) := by decide +kernel
theorem dX11_alone_25 : decode cX11_alone 25 = .ok (.goto 6, 3) := by decide +kernel
theorem dX11_alone_28 : decode cX11_alone 28 = .ok (.ldc_w 281, 3) := by decide +kernel
theorem dX11_alone_31 : decode cX11_alone 31 = .ok (.ireturn, 1) := by decide +kernel
theorem dX11_alone_5 : decode cX11_alone 5 = .ok (.ifCond .eq 23, 3) := by decide +kernel
theorem dX11_alone_8 : decode cX11_alone 8 = .ok (.aload_n 0, 1) := by decide +kernel
theorem dX11_alone_9 : decode cX11_alone 9 = .ok (.getfield 43, 3) := by decide +kernel
theorem dX11_better_0 : decode cX11_better 0 = .ok (.iload_n 1, 1) := by decide +kernel
theorem dX11_better_1 : decode cX11_better 1 = .ok (.iconst 1, 1) := by decide +kernel
theorem dX11_better_12 : decode cX11_better 12 = .ok (.aload_n 0, 1) := by decide +kernel
theorem dX11_better_13 : decode cX11_better 13 = .ok (.getfield 43, 3) := by decide +kernel
theorem dX11_better_16 : decode cX11_better 16 = .ok (.invokevirtual 272, 3) := by decide +kernel
theorem dX11_better_19 : decode cX11_better 19 = .ok (.ifCond .ne 9, 3) := by decide +kernel
theorem dX11_better_2 : decode cX11_better 2 = .ok (.if_icmp .lt 20, 3) := by decide +kernel
theorem dX11_better_22 : decode cX11_better 22 = .ok (.aload_n 0, 1) := by decide +kernel
theorem dX11_better_23 : decode cX11_better 23 = .ok (.iconst 3, 1) := by decide +kernel
theorem dX11_better_24 : decode cX11_better 24 = .ok (.invokevirtual 89, 3) := by decide +kernel
theorem dX11_better_27 : decode cX11_better 27 = .ok (.ireturn, 1) := by decide +kernel
theorem dX11_better_28 : decode cX11_better 28 = .ok (.aload_n 0, 1) := by decide +kernel
theorem dX11_better_29 : decode cX11_better 29 = .ok (.getfield 52, 3) := by decide +kernel
theorem dX11_better_32 : decode cX11_better 32 = .ok (.iload_n 1, 1) := by decide +kernel
theorem dX11_better_33 : decode cX11_better 33 = .ok (.invokevirtual 275, 3) := by decide +kernel
theorem dX11_better_36 : decode cX11_better 36 = .ok (.ireturn, 1) := by decide +kernel
theorem dX11_better_5 : decode cX11_better 5 = .ok (.iload_n 1, 1) := by decide +kernel
theorem dX11_better_6 : decode cX11_better 6 = .ok (.sipush 2000, 3) := by decide +kernel
theorem dX11_better_9 : decode cX11_better 9 = .ok (.if_icmp .gt 13, 3) := by decide +kernel
theorem dX11_both_0 : decode cX11_both 0 = .ok (.aload_n 0, 1) := by decide +kernel
theorem dX11_both_1 : decode cX11_both 1 = .ok (.iload_n 1, 1) := by decide +kernel
theorem dX11_both_10 : decode cX11_both 10 = .ok (.iconst 3, 1) := by decide +kernel
theorem dX11_both_11 : decode cX11_both 11 = .ok (.invokevirtual 89, 3) := by decide +kernel
theorem dX11_both_14 : decode cX11_both 14 = .ok (.pop, 1) := by decide +kernel
theorem dX11_both_15 : decode cX11_both 15 = .ok (.ldc_w 281, 3) := by decide +kernel
theorem dX11_both_18 : decode cX11_both 18 = .ok (.ireturn, 1) := by decide +kernel
theorem dX11_both_19 : decode cX11_both 19 = .ok (.aload_n 0, 1) := by decide +kernel
theorem dX11_both_2 : decode cX11_both 2 = .ok (.iload_n 2, 1) := by decide +kernel
theorem dX11_both_20 : decode cX11_both 20 = .ok (.getfield 52, 3) := by decide +kernel
theorem dX11_both_23 : decode cX11_both 23 = .ok (.iload_n 1, 1) := by decide +kernel
theorem dX11_both_24 : decode cX11_both 24 = .ok (.iload_n 2, 1) := by decide +kernel
theorem dX11_both_25 : decode cX11_both 25 = .ok (.invokevirtual 282, 3) := by decide +kernel
theorem dX11_both_28 : decode cX11_both 28 = .ok (.ireturn, 1) := by decide +kernel
theorem dX11_both_3 : decode cX11_both 3 = .ok (.invokevirtual 278, 3) := by decide +kernel
theorem dX11_both_6 : decode cX11_both 6 = .ok (.ifCond .ne 13, 3) := by decide +kernel
theorem dX11_both_9 : decode cX11_both 9 = .ok (.aload_n 0, 1) := by decide +kernel
theorem dX11_drawComer_0 : decode cX11_drawComer 0 = .ok (.aload_n 0, 1) := by decide +kernel
theorem dX11_drawComer_1 : decode cX11_drawComer 1 = .ok (.ldc2_w 334, 3) := by decide +kernel
theorem dX11_drawComer_12 : decode cX11_drawComer 12 = .ok (.ladd, 1) := by decide +kernel
theorem dX11_drawComer_13 : decode cX11_drawComer 13 = .ok (.ldc2_w 338, 3) := by decide +kernel
theorem dX11_drawComer_16 : decode cX11_drawComer 16 = .ok (.land, 1) := by decide +kernel
theorem dX11_drawComer_17 : decode cX11_drawComer 17 = .ok (.putfield 76, 3) := by decide +kernel
theorem dX11_drawComer_20 : decode cX11_drawComer 20 = .ok (.aload_n 0, 1) := by decide +kernel
theorem dX11_drawComer_21 : decode cX11_drawComer 21 = .ok (.getfield 76, 3) := by decide +kernel
theorem dX11_drawComer_24 : decode cX11_drawComer 24 = .ok (.ldc2_w 340, 3) := by decide +kernel
theorem dX11_drawComer_27 : decode cX11_drawComer 27 = .ok (.ldiv, 1) := by decide +kernel
theorem dX11_drawComer_28 : decode cX11_drawComer 28 = .ok (.ldc2_w 342, 3) := by decide +kernel
theorem dX11_drawComer_31 : decode cX11_drawComer 31 = .ok (.lrem, 1) := by decide +kernel
theorem dX11_drawComer_32 : decode cX11_drawComer 32 = .ok (.iload_n 1, 1) := by decide +kernel
theorem dX11_drawComer_33 : decode cX11_drawComer 33 = .ok (.i2l, 1) := by decide +kernel
theorem dX11_drawComer_34 : decode cX11_drawComer 34 = .ok (.lcmp, 1) := by decide +kernel
theorem dX11_drawComer_35 : decode cX11_drawComer 35 = .ok (.ifCond .ge 7, 3) := by decide +kernel
theorem dX11_drawComer_38 : decode cX11_drawComer 38 = .ok (.iconst 1, 1) := by decide +kernel
theorem dX11_drawComer_39 : decode cX11_drawComer 39 = .ok (.goto 4, 3) := by decide +kernel
theorem dX11_drawComer_4 : decode cX11_drawComer 4 = .ok (.aload_n 0, 1) := by decide +kernel
theorem dX11_drawComer_42 : decode cX11_drawComer 42 = .ok (.iconst 0, 1) := by decide +kernel
theorem dX11_drawComer_43 : decode cX11_drawComer 43 = .ok (.ireturn, 1) := by decide +kernel
theorem dX11_drawComer_5 : decode cX11_drawComer 5 = .ok (.getfield 76, 3) := by decide +kernel
theorem dX11_drawComer_8 : decode cX11_drawComer 8 = .ok (.lmul, 1) := by decide +kernel
theorem dX11_drawComer_9 : decode cX11_drawComer 9 = .ok (.ldc2_w 336, 3) := by decide +kernel
theorem dX11_draw_0 : decode cX11_draw 0 = .ok (.iload_n 1, 1) := by decide +kernel
theorem dX11_draw_1 : decode cX11_draw 1 = .ok (.invokestatic 230, 3) := by decide +kernel
theorem dX11_draw_10 : decode cX11_draw 10 = .ok (.getfield 43, 3) := by decide +kernel
theorem dX11_draw_100 : decode cX11_draw 100 = .ok (.goto (-27), 3) := by decide +kernel
theorem dX11_draw_103 : decode cX11_draw 103 = .ok (.iload_n 3, 1) := by decide +kernel
theorem dX11_draw_104 : decode cX11_draw 104 = .ok (.ireturn, 1) := by decide +kernel
theorem dX11_draw_13 : decode cX11_draw 13 = .ok (.getfield 121, 3) := by decide +kernel
theorem dX11_draw_16 : decode cX11_draw 16 = .ok (.astore_n 2, 1) := by decide +kernel
theorem dX11_draw_17 : decode cX11_draw 17 = .ok (.iconst 0, 1) := by decide +kernel
theorem dX11_draw_18 : decode cX11_draw 18 = .ok (.istore_n 3, 1) := by decide +kernel
theorem dX11_draw_19 : decode cX11_draw 19 = .ok (.iconst 0, 1) := by decide +kernel
theorem dX11_draw_20 : decode cX11_draw 20 = .ok (.istore 4, 2) := by decide +kernel
theorem dX11_draw_22 : decode cX11_draw 22 = .ok (.iload 4, 2) := by decide +kernel
theorem dX11_draw_24 : decode cX11_draw 24 = .ok (.aload_n 2, 1) := by decide +kernel
theorem dX11_draw_25 : decode cX11_draw 25 = .ok (.getfield 139, 3) := by decide +kernel
theorem dX11_draw_28 : decode cX11_draw 28 = .ok (.getfield 143, 3) := by decide +kernel
theorem dX11_draw_31 : decode cX11_draw 31 = .ok (.if_icmp .ge 39, 3) := by decide +kernel
theorem dX11_draw_34 : decode cX11_draw 34 = .ok (.aload_n 0, 1) := by decide +kernel
theorem dX11_draw_35 : decode cX11_draw 35 = .ok (.getfield 43, 3) := by decide +kernel
theorem dX11_draw_38 : decode cX11_draw 38 = .ok (.iload 4, 2) := by decide +kernel
theorem dX11_draw_4 : decode cX11_draw 4 = .ok (.ifCond .ne 5, 3) := by decide +kernel
theorem dX11_draw_40 : decode cX11_draw 40 = .ok (.iload_n 1, 1) := by decide +kernel
theorem dX11_draw_41 : decode cX11_draw 41 = .ok (.invokevirtual 325, 3) := by decide +kernel
theorem dX11_draw_44 : decode cX11_draw 44 = .ok (.ifCond .eq 20, 3) := by decide +kernel
theorem dX11_draw_47 : decode cX11_draw 47 = .ok (.iload_n 3, 1) := by decide +kernel
theorem dX11_draw_48 : decode cX11_draw 48 = .ok (.aload_n 0, 1) := by decide +kernel
theorem dX11_draw_49 : decode cX11_draw 49 = .ok (.aload_n 2, 1) := by decide +kernel
theorem dX11_draw_50 : decode cX11_draw 50 = .ok (.getfield 139, 3) := by decide +kernel
theorem dX11_draw_53 : decode cX11_draw 53 = .ok (.getfield 197, 3) := by decide +kernel
theorem dX11_draw_56 : decode cX11_draw 56 = .ok (.iload 4, 2) := by decide +kernel
theorem dX11_draw_58 : decode cX11_draw 58 = .ok (.iaload, 1) := by decide +kernel
theorem dX11_draw_59 : decode cX11_draw 59 = .ok (.invokevirtual 328, 3) := by decide +kernel
theorem dX11_draw_62 : decode cX11_draw 62 = .ok (.iadd, 1) := by decide +kernel
theorem dX11_draw_63 : decode cX11_draw 63 = .ok (.istore_n 3, 1) := by decide +kernel
theorem dX11_draw_64 : decode cX11_draw 64 = .ok (.iinc 4 1, 3) := by decide +kernel
theorem dX11_draw_67 : decode cX11_draw 67 = .ok (.goto (-45), 3) := by decide +kernel
theorem dX11_draw_7 : decode cX11_draw 7 = .ok (.iconst (-1), 1) := by decide +kernel
theorem dX11_draw_70 : decode cX11_draw 70 = .ok (.iconst 0, 1) := by decide +kernel
theorem dX11_draw_71 : decode cX11_draw 71 = .ok (.istore 4, 2) := by decide +kernel
theorem dX11_draw_73 : decode cX11_draw 73 = .ok (.iload 4, 2) := by decide +kernel
theorem dX11_draw_75 : decode cX11_draw 75 = .ok (.aload_n 2, 1) := by decide +kernel
theorem dX11_draw_76 : decode cX11_draw 76 = .ok (.getfield 239, 3) := by decide +kernel
theorem dX11_draw_79 : decode cX11_draw 79 = .ok (.iload_n 1, 1) := by decide +kernel
theorem dX11_draw_8 : decode cX11_draw 8 = .ok (.ireturn, 1) := by decide +kernel
theorem dX11_draw_80 : decode cX11_draw 80 = .ok (.iaload, 1) := by decide +kernel
theorem dX11_draw_81 : decode cX11_draw 81 = .ok (.if_icmp .ge 22, 3) := by decide +kernel
theorem dX11_draw_84 : decode cX11_draw 84 = .ok (.iload_n 3, 1) := by decide +kernel
theorem dX11_draw_85 : decode cX11_draw 85 = .ok (.aload_n 0, 1) := by decide +kernel
theorem dX11_draw_86 : decode cX11_draw 86 = .ok (.aload_n 2, 1) := by decide +kernel
theorem dX11_draw_87 : decode cX11_draw 87 = .ok (.getfield 331, 3) := by decide +kernel
theorem dX11_draw_9 : decode cX11_draw 9 = .ok (.aload_n 0, 1) := by decide +kernel
theorem dX11_draw_90 : decode cX11_draw 90 = .ok (.iload_n 1, 1) := by decide +kernel
theorem dX11_draw_91 : decode cX11_draw 91 = .ok (.iaload, 1) := by decide +kernel
theorem dX11_draw_92 : decode cX11_draw 92 = .ok (.invokevirtual 328, 3) := by decide +kernel
theorem dX11_draw_95 : decode cX11_draw 95 = .ok (.iadd, 1) := by decide +kernel
theorem dX11_draw_96 : decode cX11_draw 96 = .ok (.istore_n 3, 1) := by decide +kernel
theorem dX11_draw_97 : decode cX11_draw 97 = .ok (.iinc 4 1, 3) := by decide +kernel
theorem dX11_end_0 : decode cX11_end 0 = .ok (.iload_n 1, 1) := by decide +kernel
theorem dX11_end_1 : decode cX11_end 1 = .ok (.ifCond .lt 11, 3) := by decide +kernel
theorem dX11_end_12 : decode cX11_end 12 = .ok (.aload_n 0, 1) := by decide +kernel
theorem dX11_end_13 : decode cX11_end 13 = .ok (.iconst 0, 1) := by decide +kernel
theorem dX11_end_14 : decode cX11_end 14 = .ok (.invokevirtual 89, 3) := by decide +kernel
theorem dX11_end_17 : decode cX11_end 17 = .ok (.pop, 1) := by decide +kernel
theorem dX11_end_18 : decode cX11_end 18 = .ok (.iconst 0, 1) := by decide +kernel
theorem dX11_end_19 : decode cX11_end 19 = .ok (.ireturn, 1) := by decide +kernel
theorem dX11_end_20 : decode cX11_end 20 = .ok (.aload_n 0, 1) := by decide +kernel
theorem dX11_end_21 : decode cX11_end 21 = .ok (.iload_n 1, 1) := by decide +kernel
theorem dX11_end_22 : decode cX11_end 22 = .ok (.putfield 13, 3) := by decide +kernel
theorem dX11_end_25 : decode cX11_end 25 = .ok (.iconst 1, 1) := by decide +kernel
theorem dX11_end_26 : decode cX11_end 26 = .ok (.ireturn, 1) := by decide +kernel
theorem dX11_end_4 : decode cX11_end 4 = .ok (.iload_n 1, 1) := by decide +kernel
theorem dX11_end_5 : decode cX11_end 5 = .ok (.aload_n 0, 1) := by decide +kernel
theorem dX11_end_6 : decode cX11_end 6 = .ok (.getfield 13, 3) := by decide +kernel
theorem dX11_end_9 : decode cX11_end 9 = .ok (.if_icmp .le 11, 3) := by decide +kernel
theorem dX11_enough_0 : decode cX11_enough 0 = .ok (.iload_n 1, 1) := by decide +kernel
theorem dX11_enough_1 : decode cX11_enough 1 = .ok (.invokestatic 230, 3) := by decide +kernel
theorem dX11_enough_11 : decode cX11_enough 11 = .ok (.ifCond .ne 5, 3) := by decide +kernel
theorem dX11_enough_14 : decode cX11_enough 14 = .ok (.iconst (-1), 1) := by decide +kernel
theorem dX11_enough_15 : decode cX11_enough 15 = .ok (.ireturn, 1) := by decide +kernel
theorem dX11_enough_16 : decode cX11_enough 16 = .ok (.aload_n 0, 1) := by decide +kernel
theorem dX11_enough_17 : decode cX11_enough 17 = .ok (.getfield 66, 3) := by decide +kernel
theorem dX11_enough_20 : decode cX11_enough 20 = .ok (.aload_n 0, 1) := by decide +kernel
theorem dX11_enough_21 : decode cX11_enough 21 = .ok (.getfield 43, 3) := by decide +kernel
theorem dX11_enough_24 : decode cX11_enough 24 = .ok (.iload_n 1, 1) := by decide +kernel
theorem dX11_enough_25 : decode cX11_enough 25 = .ok (.invokevirtual 305, 3) := by decide +kernel
theorem dX11_enough_28 : decode cX11_enough 28 = .ok (.iconst 0, 1) := by decide +kernel
theorem dX11_enough_29 : decode cX11_enough 29 = .ok (.istore_n 3, 1) := by decide +kernel
theorem dX11_enough_30 : decode cX11_enough 30 = .ok (.iload_n 3, 1) := by decide +kernel
theorem dX11_enough_31 : decode cX11_enough 31 = .ok (.bipush 30, 2) := by decide +kernel
theorem dX11_enough_33 : decode cX11_enough 33 = .ok (.if_icmp .gt 29, 3) := by decide +kernel
theorem dX11_enough_36 : decode cX11_enough 36 = .ok (.aload_n 0, 1) := by decide +kernel
theorem dX11_enough_37 : decode cX11_enough 37 = .ok (.getfield 66, 3) := by decide +kernel
theorem dX11_enough_4 : decode cX11_enough 4 = .ok (.ifCond .eq 10, 3) := by decide +kernel
theorem dX11_enough_40 : decode cX11_enough 40 = .ok (.iload_n 3, 1) := by decide +kernel
theorem dX11_enough_41 : decode cX11_enough 41 = .ok (.invokevirtual 309, 3) := by decide +kernel
theorem dX11_enough_44 : decode cX11_enough 44 = .ok (.iload_n 2, 1) := by decide +kernel
theorem dX11_enough_45 : decode cX11_enough 45 = .ok (.i2l, 1) := by decide +kernel
theorem dX11_enough_46 : decode cX11_enough 46 = .ok (.ldc2_w 316, 3) := by decide +kernel
theorem dX11_enough_49 : decode cX11_enough 49 = .ok (.lmul, 1) := by decide +kernel
theorem dX11_enough_50 : decode cX11_enough 50 = .ok (.lcmp, 1) := by decide +kernel
theorem dX11_enough_51 : decode cX11_enough 51 = .ok (.ifCond .gt 5, 3) := by decide +kernel
theorem dX11_enough_54 : decode cX11_enough 54 = .ok (.iload_n 3, 1) := by decide +kernel
theorem dX11_enough_55 : decode cX11_enough 55 = .ok (.ireturn, 1) := by decide +kernel
theorem dX11_enough_56 : decode cX11_enough 56 = .ok (.iinc 3 1, 3) := by decide +kernel
theorem dX11_enough_59 : decode cX11_enough 59 = .ok (.goto (-29), 3) := by decide +kernel
theorem dX11_enough_62 : decode cX11_enough 62 = .ok (.iconst (-1), 1) := by decide +kernel
theorem dX11_enough_63 : decode cX11_enough 63 = .ok (.ireturn, 1) := by decide +kernel
theorem dX11_enough_7 : decode cX11_enough 7 = .ok (.iload_n 2, 1) := by decide +kernel
theorem dX11_enough_8 : decode cX11_enough 8 = .ok (.invokestatic 313, 3) := by decide +kernel
theorem dX11_feed_0 : decode cX11_feed 0 = .ok (.aload_n 0, 1) := by decide +kernel
theorem dX11_feed_1 : decode cX11_feed 1 = .ok (.getfield 13, 3) := by decide +kernel
theorem dX11_feed_10 : decode cX11_feed 10 = .ok (.if_icmp .le 9, 3) := by decide +kernel
theorem dX11_feed_13 : decode cX11_feed 13 = .ok (.aload_n 0, 1) := by decide +kernel
theorem dX11_feed_14 : decode cX11_feed 14 = .ok (.iconst 0, 1) := by decide +kernel
theorem dX11_feed_15 : decode cX11_feed 15 = .ok (.invokevirtual 89, 3) := by decide +kernel
theorem dX11_feed_18 : decode cX11_feed 18 = .ok (.ireturn, 1) := by decide +kernel
theorem dX11_feed_19 : decode cX11_feed 19 = .ok (.aload_n 0, 1) := by decide +kernel
theorem dX11_feed_20 : decode cX11_feed 20 = .ok (.iload_n 1, 1) := by decide +kernel
theorem dX11_feed_21 : decode cX11_feed 21 = .ok (.invokevirtual 93, 3) := by decide +kernel
theorem dX11_feed_24 : decode cX11_feed 24 = .ok (.aload_n 0, 1) := by decide +kernel
theorem dX11_feed_25 : decode cX11_feed 25 = .ok (.iload_n 2, 1) := by decide +kernel
theorem dX11_feed_26 : decode cX11_feed 26 = .ok (.invokevirtual 93, 3) := by decide +kernel
theorem dX11_feed_29 : decode cX11_feed 29 = .ok (.aload_n 0, 1) := by decide +kernel
theorem dX11_feed_30 : decode cX11_feed 30 = .ok (.iload_n 3, 1) := by decide +kernel
theorem dX11_feed_31 : decode cX11_feed 31 = .ok (.invokevirtual 93, 3) := by decide +kernel
theorem dX11_feed_34 : decode cX11_feed 34 = .ok (.aload_n 0, 1) := by decide +kernel
theorem dX11_feed_35 : decode cX11_feed 35 = .ok (.iload 4, 2) := by decide +kernel
theorem dX11_feed_37 : decode cX11_feed 37 = .ok (.invokevirtual 93, 3) := by decide +kernel
theorem dX11_feed_4 : decode cX11_feed 4 = .ok (.bipush 20, 2) := by decide +kernel
theorem dX11_feed_40 : decode cX11_feed 40 = .ok (.aload_n 0, 1) := by decide +kernel
theorem dX11_feed_41 : decode cX11_feed 41 = .ok (.iload 5, 2) := by decide +kernel
theorem dX11_feed_43 : decode cX11_feed 43 = .ok (.invokevirtual 93, 3) := by decide +kernel
theorem dX11_feed_46 : decode cX11_feed 46 = .ok (.aload_n 0, 1) := by decide +kernel
theorem dX11_feed_47 : decode cX11_feed 47 = .ok (.getfield 13, 3) := by decide +kernel
theorem dX11_feed_50 : decode cX11_feed 50 = .ok (.ireturn, 1) := by decide +kernel
theorem dX11_feed_6 : decode cX11_feed 6 = .ok (.iadd, 1) := by decide +kernel
theorem dX11_feed_7 : decode cX11_feed 7 = .ok (.sipush 1800, 3) := by decide +kernel
theorem dX11_fewest_0 : decode cX11_fewest 0 = .ok (.aload_n 0, 1) := by decide +kernel
theorem dX11_fewest_1 : decode cX11_fewest 1 = .ok (.getfield 52, 3) := by decide +kernel
theorem dX11_fewest_4 : decode cX11_fewest 4 = .ok (.invokevirtual 269, 3) := by decide +kernel
theorem dX11_fewest_7 : decode cX11_fewest 7 = .ok (.ireturn, 1) := by decide +kernel
theorem dX11_fit_0 : decode cX11_fit 0 = .ok (.iload_n 1, 1) := by decide +kernel
theorem dX11_fit_1 : decode cX11_fit 1 = .ok (.invokestatic 230, 3) := by decide +kernel
theorem dX11_fit_11 : decode cX11_fit 11 = .ok (.iload_n 2, 1) := by decide +kernel
theorem dX11_fit_12 : decode cX11_fit 12 = .ok (.iconst 2, 1) := by decide +kernel
theorem dX11_fit_13 : decode cX11_fit 13 = .ok (.if_icmp .le 7, 3) := by decide +kernel
theorem dX11_fit_16 : decode cX11_fit 16 = .ok (.ldc_w 281, 3) := by decide +kernel
theorem dX11_fit_19 : decode cX11_fit 19 = .ok (.ireturn, 1) := by decide +kernel
theorem dX11_fit_20 : decode cX11_fit 20 = .ok (.aload_n 0, 1) := by decide +kernel
theorem dX11_fit_21 : decode cX11_fit 21 = .ok (.getfield 59, 3) := by decide +kernel
theorem dX11_fit_24 : decode cX11_fit 24 = .ok (.iload_n 1, 1) := by decide +kernel
theorem dX11_fit_25 : decode cX11_fit 25 = .ok (.invokevirtual 350, 3) := by decide +kernel
theorem dX11_fit_28 : decode cX11_fit 28 = .ok (.iload_n 2, 1) := by decide +kernel
theorem dX11_fit_29 : decode cX11_fit 29 = .ok (.ifCond .ne 11, 3) := by decide +kernel
theorem dX11_fit_32 : decode cX11_fit 32 = .ok (.aload_n 0, 1) := by decide +kernel
theorem dX11_fit_33 : decode cX11_fit 33 = .ok (.getfield 59, 3) := by decide +kernel
theorem dX11_fit_36 : decode cX11_fit 36 = .ok (.invokevirtual 358, 3) := by decide +kernel
theorem dX11_fit_39 : decode cX11_fit 39 = .ok (.ireturn, 1) := by decide +kernel
theorem dX11_fit_4 : decode cX11_fit 4 = .ok (.ifCond .eq 12, 3) := by decide +kernel
theorem dX11_fit_40 : decode cX11_fit 40 = .ok (.aload_n 0, 1) := by decide +kernel
theorem dX11_fit_41 : decode cX11_fit 41 = .ok (.getfield 59, 3) := by decide +kernel
theorem dX11_fit_44 : decode cX11_fit 44 = .ok (.invokevirtual 353, 3) := by decide +kernel
theorem dX11_fit_47 : decode cX11_fit 47 = .ok (.istore_n 3, 1) := by decide +kernel
theorem dX11_fit_48 : decode cX11_fit 48 = .ok (.iload_n 2, 1) := by decide +kernel
theorem dX11_fit_49 : decode cX11_fit 49 = .ok (.iconst 1, 1) := by decide +kernel
theorem dX11_fit_50 : decode cX11_fit 50 = .ok (.if_icmp .ne 13, 3) := by decide +kernel
theorem dX11_fit_53 : decode cX11_fit 53 = .ok (.aload_n 0, 1) := by decide +kernel
theorem dX11_fit_54 : decode cX11_fit 54 = .ok (.getfield 59, 3) := by decide +kernel
theorem dX11_fit_57 : decode cX11_fit 57 = .ok (.invokevirtual 358, 3) := by decide +kernel
theorem dX11_fit_60 : decode cX11_fit 60 = .ok (.goto 4, 3) := by decide +kernel
theorem dX11_fit_63 : decode cX11_fit 63 = .ok (.iload_n 3, 1) := by decide +kernel
theorem dX11_fit_64 : decode cX11_fit 64 = .ok (.ireturn, 1) := by decide +kernel
theorem dX11_fit_7 : decode cX11_fit 7 = .ok (.iload_n 2, 1) := by decide +kernel
theorem dX11_fit_8 : decode cX11_fit 8 = .ok (.ifCond .lt 8, 3) := by decide +kernel
theorem dX11_free_0 : decode cX11_free 0 = .ok (.iload_n 1, 1) := by decide +kernel
theorem dX11_free_1 : decode cX11_free 1 = .ok (.iconst 1, 1) := by decide +kernel
theorem dX11_free_11 : decode cX11_free 11 = .ok (.aload_n 0, 1) := by decide +kernel
theorem dX11_free_12 : decode cX11_free 12 = .ok (.iconst 3, 1) := by decide +kernel
theorem dX11_free_13 : decode cX11_free 13 = .ok (.invokevirtual 89, 3) := by decide +kernel
theorem dX11_free_16 : decode cX11_free 16 = .ok (.ireturn, 1) := by decide +kernel
theorem dX11_free_17 : decode cX11_free 17 = .ok (.aload_n 0, 1) := by decide +kernel
theorem dX11_free_18 : decode cX11_free 18 = .ok (.getfield 43, 3) := by decide +kernel
theorem dX11_free_2 : decode cX11_free 2 = .ok (.if_icmp .lt 9, 3) := by decide +kernel
theorem dX11_free_21 : decode cX11_free 21 = .ok (.iload_n 1, 1) := by decide +kernel
theorem dX11_free_22 : decode cX11_free 22 = .ok (.invokevirtual 347, 3) := by decide +kernel
theorem dX11_free_25 : decode cX11_free 25 = .ok (.ireturn, 1) := by decide +kernel
theorem dX11_free_5 : decode cX11_free 5 = .ok (.iload_n 1, 1) := by decide +kernel
theorem dX11_free_6 : decode cX11_free 6 = .ok (.bipush 60, 2) := by decide +kernel
theorem dX11_free_8 : decode cX11_free 8 = .ok (.if_icmp .le 9, 3) := by decide +kernel
theorem dX11_image_0 : decode cX11_image 0 = .ok (.aload_n 0, 1) := by decide +kernel
theorem dX11_image_1 : decode cX11_image 1 = .ok (.getfield 43, 3) := by decide +kernel
theorem dX11_image_10 : decode cX11_image 10 = .ok (.getfield 143, 3) := by decide +kernel
theorem dX11_image_13 : decode cX11_image 13 = .ok (.istore_n 1, 1) := by decide +kernel
theorem dX11_image_14 : decode cX11_image 14 = .ok (.aload_n 0, 1) := by decide +kernel
theorem dX11_image_15 : decode cX11_image 15 = .ok (.getfield 80, 3) := by decide +kernel
theorem dX11_image_18 : decode cX11_image 18 = .ok (.iconst 0, 1) := by decide +kernel
theorem dX11_image_19 : decode cX11_image 19 = .ok (.iload_n 1, 1) := by decide +kernel
theorem dX11_image_20 : decode cX11_image 20 = .ok (.iastore, 1) := by decide +kernel
theorem dX11_image_21 : decode cX11_image 21 = .ok (.iconst 0, 1) := by decide +kernel
theorem dX11_image_22 : decode cX11_image 22 = .ok (.istore_n 2, 1) := by decide +kernel
theorem dX11_image_23 : decode cX11_image 23 = .ok (.iload_n 2, 1) := by decide +kernel
theorem dX11_image_24 : decode cX11_image 24 = .ok (.iload_n 1, 1) := by decide +kernel
theorem dX11_image_25 : decode cX11_image 25 = .ok (.if_icmp .ge 26, 3) := by decide +kernel
theorem dX11_image_28 : decode cX11_image 28 = .ok (.aload_n 0, 1) := by decide +kernel
theorem dX11_image_29 : decode cX11_image 29 = .ok (.getfield 80, 3) := by decide +kernel
theorem dX11_image_32 : decode cX11_image 32 = .ok (.iload_n 2, 1) := by decide +kernel
theorem dX11_image_33 : decode cX11_image 33 = .ok (.iconst 1, 1) := by decide +kernel
theorem dX11_image_34 : decode cX11_image 34 = .ok (.iadd, 1) := by decide +kernel
theorem dX11_image_35 : decode cX11_image 35 = .ok (.aload_n 0, 1) := by decide +kernel
theorem dX11_image_36 : decode cX11_image 36 = .ok (.getfield 43, 3) := by decide +kernel
theorem dX11_image_39 : decode cX11_image 39 = .ok (.getfield 206, 3) := by decide +kernel
theorem dX11_image_4 : decode cX11_image 4 = .ok (.getfield 121, 3) := by decide +kernel
theorem dX11_image_42 : decode cX11_image 42 = .ok (.iload_n 2, 1) := by decide +kernel
theorem dX11_image_43 : decode cX11_image 43 = .ok (.iaload, 1) := by decide +kernel
theorem dX11_image_44 : decode cX11_image 44 = .ok (.iastore, 1) := by decide +kernel
theorem dX11_image_45 : decode cX11_image 45 = .ok (.iinc 2 1, 3) := by decide +kernel
theorem dX11_image_48 : decode cX11_image 48 = .ok (.goto (-25), 3) := by decide +kernel
theorem dX11_image_51 : decode cX11_image 51 = .ok (.aload_n 0, 1) := by decide +kernel
theorem dX11_image_52 : decode cX11_image 52 = .ok (.getfield 80, 3) := by decide +kernel
theorem dX11_image_55 : decode cX11_image 55 = .ok (.iload_n 1, 1) := by decide +kernel
theorem dX11_image_56 : decode cX11_image 56 = .ok (.iconst 1, 1) := by decide +kernel
theorem dX11_image_57 : decode cX11_image 57 = .ok (.iadd, 1) := by decide +kernel
theorem dX11_image_58 : decode cX11_image 58 = .ok (.aload_n 0, 1) := by decide +kernel
theorem dX11_image_59 : decode cX11_image 59 = .ok (.getfield 80, 3) := by decide +kernel
theorem dX11_image_62 : decode cX11_image 62 = .ok (.iload_n 1, 1) := by decide +kernel
theorem dX11_image_63 : decode cX11_image 63 = .ok (.iconst 1, 1) := by decide +kernel
theorem dX11_image_64 : decode cX11_image 64 = .ok (.iadd, 1) := by decide +kernel
theorem dX11_image_65 : decode cX11_image 65 = .ok (.invokestatic 373, 3) := by decide +kernel
theorem dX11_image_68 : decode cX11_image 68 = .ok (.iastore, 1) := by decide +kernel
theorem dX11_image_69 : decode cX11_image 69 = .ok (.aload_n 0, 1) := by decide +kernel
theorem dX11_image_7 : decode cX11_image 7 = .ok (.getfield 139, 3) := by decide +kernel
theorem dX11_image_70 : decode cX11_image 70 = .ok (.iload_n 1, 1) := by decide +kernel
theorem dX11_image_71 : decode cX11_image 71 = .ok (.iconst 2, 1) := by decide +kernel
theorem dX11_image_72 : decode cX11_image 72 = .ok (.iadd, 1) := by decide +kernel
theorem dX11_image_73 : decode cX11_image 73 = .ok (.putfield 83, 3) := by decide +kernel
theorem dX11_image_76 : decode cX11_image 76 = .ok (.aload_n 0, 1) := by decide +kernel
theorem dX11_image_77 : decode cX11_image 77 = .ok (.getfield 83, 3) := by decide +kernel
theorem dX11_image_80 : decode cX11_image 80 = .ok (.ireturn, 1) := by decide +kernel
theorem dX11_judge_0 : decode cX11_judge 0 = .ok (.aload_n 0, 1) := by decide +kernel
theorem dX11_judge_1 : decode cX11_judge 1 = .ok (.getfield 43, 3) := by decide +kernel
theorem dX11_judge_36 : decode cX11_judge 36 = .ok (.aload_n 0, 1) := by decide +kernel
theorem dX11_judge_37 : decode cX11_judge 37 = .ok (.getfield 43, 3) := by decide +kernel
theorem dX11_judge_4 : decode cX11_judge 4 = .ok (.invokevirtual 245, 3) := by decide +kernel
theorem dX11_judge_40 : decode cX11_judge 40 = .ok (.getfield 248, 3) := by decide +kernel
theorem dX11_judge_43 : decode cX11_judge 43 = .ok (.ireturn, 1) := by decide +kernel
theorem dX11_judge_44 : decode cX11_judge 44 = .ok (.aload_n 0, 1) := by decide +kernel
theorem dX11_judge_45 : decode cX11_judge 45 = .ok (.getfield 43, 3) := by decide +kernel
theorem dX11_judge_48 : decode cX11_judge 48 = .ok (.getfield 251, 3) := by decide +kernel
theorem dX11_judge_51 : decode cX11_judge 51 = .ok (.ireturn, 1) := by decide +kernel
theorem dX11_judge_52 : decode cX11_judge 52 = .ok (.aload_n 0, 1) := by decide +kernel
theorem dX11_judge_53 : decode cX11_judge 53 = .ok (.getfield 43, 3) := by decide +kernel
theorem dX11_judge_56 : decode cX11_judge 56 = .ok (.getfield 254, 3) := by decide +kernel
theorem dX11_judge_59 : decode cX11_judge 59 = .ok (.ireturn, 1) := by decide +kernel
theorem dX11_judge_60 : decode cX11_judge 60 = .ok (.iconst (-1), 1) := by decide +kernel
theorem dX11_judge_61 : decode cX11_judge 61 = .ok (.ireturn, 1) := by decide +kernel
theorem dX11_judge_7 : decode cX11_judge 7 = .ok (.iload_n 1, 1) := by decide +kernel
theorem dX11_judge_8 : decode cX11_judge 8 = .ok (.tableswitch 52 0 2 #[28, 36, 44], 28) := by decide +kernel
theorem dX11_likely_0 : decode cX11_likely 0 = .ok (.iload_n 1, 1) := by decide +kernel
theorem dX11_likely_1 : decode cX11_likely 1 = .ok (.invokestatic 230, 3) := by decide +kernel
theorem dX11_likely_11 : decode cX11_likely 11 = .ok (.iload_n 2, 1) := by decide +kernel
theorem dX11_likely_12 : decode cX11_likely 12 = .ok (.bipush 30, 2) := by decide +kernel
theorem dX11_likely_14 : decode cX11_likely 14 = .ok (.if_icmp .le 7, 3) := by decide +kernel
theorem dX11_likely_17 : decode cX11_likely 17 = .ok (.ldc2_w 303, 3) := by decide +kernel
theorem dX11_likely_20 : decode cX11_likely 20 = .ok (.lreturn, 1) := by decide +kernel
theorem dX11_likely_21 : decode cX11_likely 21 = .ok (.aload_n 0, 1) := by decide +kernel
theorem dX11_likely_22 : decode cX11_likely 22 = .ok (.getfield 66, 3) := by decide +kernel
theorem dX11_likely_25 : decode cX11_likely 25 = .ok (.aload_n 0, 1) := by decide +kernel
theorem dX11_likely_26 : decode cX11_likely 26 = .ok (.getfield 43, 3) := by decide +kernel
theorem dX11_likely_29 : decode cX11_likely 29 = .ok (.iload_n 1, 1) := by decide +kernel
theorem dX11_likely_30 : decode cX11_likely 30 = .ok (.invokevirtual 305, 3) := by decide +kernel
theorem dX11_likely_33 : decode cX11_likely 33 = .ok (.aload_n 0, 1) := by decide +kernel
theorem dX11_likely_34 : decode cX11_likely 34 = .ok (.getfield 66, 3) := by decide +kernel
theorem dX11_likely_37 : decode cX11_likely 37 = .ok (.iload_n 2, 1) := by decide +kernel
theorem dX11_likely_38 : decode cX11_likely 38 = .ok (.invokevirtual 309, 3) := by decide +kernel
theorem dX11_likely_4 : decode cX11_likely 4 = .ok (.ifCond .eq 13, 3) := by decide +kernel
theorem dX11_likely_41 : decode cX11_likely 41 = .ok (.lreturn, 1) := by decide +kernel
theorem dX11_likely_7 : decode cX11_likely 7 = .ok (.iload_n 2, 1) := by decide +kernel
theorem dX11_likely_8 : decode cX11_likely 8 = .ok (.ifCond .lt 9, 3) := by decide +kernel
theorem dX11_move_0 : decode cX11_move 0 = .ok (.aload_n 0, 1) := by decide +kernel
theorem dX11_move_1 : decode cX11_move 1 = .ok (.iload_n 1, 1) := by decide +kernel
theorem dX11_move_12 : decode cX11_move 12 = .ok (.iload_n 1, 1) := by decide +kernel
theorem dX11_move_13 : decode cX11_move 13 = .ok (.invokevirtual 370, 3) := by decide +kernel
theorem dX11_move_16 : decode cX11_move 16 = .ok (.goto 4, 3) := by decide +kernel
theorem dX11_move_19 : decode cX11_move 19 = .ok (.iconst (-1), 1) := by decide +kernel
theorem dX11_move_2 : decode cX11_move 2 = .ok (.invokevirtual 184, 3) := by decide +kernel
theorem dX11_move_20 : decode cX11_move 20 = .ok (.ireturn, 1) := by decide +kernel
theorem dX11_move_5 : decode cX11_move 5 = .ok (.ifCond .eq 14, 3) := by decide +kernel
theorem dX11_move_8 : decode cX11_move 8 = .ok (.aload_n 0, 1) := by decide +kernel
theorem dX11_move_9 : decode cX11_move 9 = .ok (.getfield 52, 3) := by decide +kernel
theorem dX11_on_0 : decode cX11_on 0 = .ok (.aload_n 0, 1) := by decide +kernel
theorem dX11_on_1 : decode cX11_on 1 = .ok (.invokevirtual 377, 3) := by decide +kernel
theorem dX11_on_10 : decode cX11_on 10 = .ok (.iconst 1, 1) := by decide +kernel
theorem dX11_on_11 : decode cX11_on 11 = .ok (.invokevirtual 227, 3) := by decide +kernel
theorem dX11_on_14 : decode cX11_on 14 = .ok (.goto 9, 3) := by decide +kernel
theorem dX11_on_17 : decode cX11_on 17 = .ok (.aload_n 0, 1) := by decide +kernel
theorem dX11_on_18 : decode cX11_on 18 = .ok (.iconst 5, 1) := by decide +kernel
theorem dX11_on_19 : decode cX11_on 19 = .ok (.invokevirtual 89, 3) := by decide +kernel
theorem dX11_on_22 : decode cX11_on 22 = .ok (.pop, 1) := by decide +kernel
theorem dX11_on_23 : decode cX11_on 23 = .ok (.aload_n 0, 1) := by decide +kernel
theorem dX11_on_24 : decode cX11_on 24 = .ok (.iconst 0, 1) := by decide +kernel
theorem dX11_on_25 : decode cX11_on 25 = .ok (.putfield 13, 3) := by decide +kernel
theorem dX11_on_28 : decode cX11_on 28 = .ok (.iload_n 1, 1) := by decide +kernel
theorem dX11_on_29 : decode cX11_on 29 = .ok (.ireturn, 1) := by decide +kernel
theorem dX11_on_4 : decode cX11_on 4 = .ok (.istore_n 1, 1) := by decide +kernel
theorem dX11_on_5 : decode cX11_on 5 = .ok (.iload_n 1, 1) := by decide +kernel
theorem dX11_on_6 : decode cX11_on 6 = .ok (.ifCond .eq 11, 3) := by decide +kernel
theorem dX11_on_9 : decode cX11_on 9 = .ok (.aload_n 0, 1) := by decide +kernel
theorem dX11_over_0 : decode cX11_over 0 = .ok (.iload_n 1, 1) := by decide +kernel
theorem dX11_over_1 : decode cX11_over 1 = .ok (.invokestatic 313, 3) := by decide +kernel
theorem dX11_over_11 : decode cX11_over 11 = .ok (.ifCond .eq 13, 3) := by decide +kernel
theorem dX11_over_14 : decode cX11_over 14 = .ok (.iload_n 2, 1) := by decide +kernel
theorem dX11_over_15 : decode cX11_over 15 = .ok (.ifCond .lt 9, 3) := by decide +kernel
theorem dX11_over_18 : decode cX11_over 18 = .ok (.iload_n 2, 1) := by decide +kernel
theorem dX11_over_19 : decode cX11_over 19 = .ok (.bipush 40, 2) := by decide +kernel
theorem dX11_over_21 : decode cX11_over 21 = .ok (.if_icmp .le 5, 3) := by decide +kernel
theorem dX11_over_24 : decode cX11_over 24 = .ok (.iconst (-1), 1) := by decide +kernel
theorem dX11_over_25 : decode cX11_over 25 = .ok (.ireturn, 1) := by decide +kernel
theorem dX11_over_26 : decode cX11_over 26 = .ok (.aload_n 0, 1) := by decide +kernel
theorem dX11_over_27 : decode cX11_over 27 = .ok (.getfield 66, 3) := by decide +kernel
theorem dX11_over_30 : decode cX11_over 30 = .ok (.iload_n 1, 1) := by decide +kernel
theorem dX11_over_31 : decode cX11_over 31 = .ok (.iload_n 2, 1) := by decide +kernel
theorem dX11_over_32 : decode cX11_over 32 = .ok (.iload_n 3, 1) := by decide +kernel
theorem dX11_over_33 : decode cX11_over 33 = .ok (.invokevirtual 318, 3) := by decide +kernel
theorem dX11_over_36 : decode cX11_over 36 = .ok (.ireturn, 1) := by decide +kernel
theorem dX11_over_4 : decode cX11_over 4 = .ok (.ifCond .eq 20, 3) := by decide +kernel
theorem dX11_over_7 : decode cX11_over 7 = .ok (.iload_n 3, 1) := by decide +kernel
theorem dX11_over_8 : decode cX11_over 8 = .ok (.invokestatic 313, 3) := by decide +kernel
theorem dX11_put_0 : decode cX11_put 0 = .ok (.aload_n 0, 1) := by decide +kernel
theorem dX11_put_1 : decode cX11_put 1 = .ok (.iload_n 1, 1) := by decide +kernel
theorem dX11_put_12 : decode cX11_put 12 = .ok (.iload_n 2, 1) := by decide +kernel
theorem dX11_put_13 : decode cX11_put 13 = .ok (.bipush 31, 2) := by decide +kernel
theorem dX11_put_15 : decode cX11_put 15 = .ok (.if_icmp .le 11, 3) := by decide +kernel
theorem dX11_put_18 : decode cX11_put 18 = .ok (.aload_n 0, 1) := by decide +kernel
theorem dX11_put_19 : decode cX11_put 19 = .ok (.iconst 2, 1) := by decide +kernel
theorem dX11_put_2 : decode cX11_put 2 = .ok (.invokevirtual 184, 3) := by decide +kernel
theorem dX11_put_20 : decode cX11_put 20 = .ok (.invokevirtual 89, 3) := by decide +kernel
theorem dX11_put_23 : decode cX11_put 23 = .ok (.pop, 1) := by decide +kernel
theorem dX11_put_24 : decode cX11_put 24 = .ok (.iconst 0, 1) := by decide +kernel
theorem dX11_put_25 : decode cX11_put 25 = .ok (.ireturn, 1) := by decide +kernel
theorem dX11_put_26 : decode cX11_put 26 = .ok (.aload_n 0, 1) := by decide +kernel
theorem dX11_put_27 : decode cX11_put 27 = .ok (.getfield 43, 3) := by decide +kernel
theorem dX11_put_30 : decode cX11_put 30 = .ok (.getfield 206, 3) := by decide +kernel
theorem dX11_put_33 : decode cX11_put 33 = .ok (.iload_n 1, 1) := by decide +kernel
theorem dX11_put_34 : decode cX11_put 34 = .ok (.iload_n 2, 1) := by decide +kernel
theorem dX11_put_35 : decode cX11_put 35 = .ok (.iastore, 1) := by decide +kernel
theorem dX11_put_36 : decode cX11_put 36 = .ok (.iconst 1, 1) := by decide +kernel
theorem dX11_put_37 : decode cX11_put 37 = .ok (.ireturn, 1) := by decide +kernel
theorem dX11_put_5 : decode cX11_put 5 = .ok (.ifCond .eq 13, 3) := by decide +kernel
theorem dX11_put_8 : decode cX11_put 8 = .ok (.iload_n 2, 1) := by decide +kernel
theorem dX11_put_9 : decode cX11_put 9 = .ok (.ifCond .lt 9, 3) := by decide +kernel
theorem dX11_refuse_0 : decode cX11_refuse 0 = .ok (.aload_n 0, 1) := by decide +kernel
theorem dX11_refuse_1 : decode cX11_refuse 1 = .ok (.getfield 86, 3) := by decide +kernel
theorem dX11_refuse_10 : decode cX11_refuse 10 = .ok (.iconst (-1), 1) := by decide +kernel
theorem dX11_refuse_11 : decode cX11_refuse 11 = .ok (.ireturn, 1) := by decide +kernel
theorem dX11_refuse_4 : decode cX11_refuse 4 = .ok (.iload_n 1, 1) := by decide +kernel
theorem dX11_refuse_5 : decode cX11_refuse 5 = .ok (.dup2, 1) := by decide +kernel
theorem dX11_refuse_6 : decode cX11_refuse 6 = .ok (.iaload, 1) := by decide +kernel
theorem dX11_refuse_7 : decode cX11_refuse 7 = .ok (.iconst 1, 1) := by decide +kernel
theorem dX11_refuse_8 : decode cX11_refuse 8 = .ok (.iadd, 1) := by decide +kernel
theorem dX11_refuse_9 : decode cX11_refuse 9 = .ok (.iastore, 1) := by decide +kernel
theorem dX11_row_0 : decode cX11_row 0 = .ok (.aload_n 0, 1) := by decide +kernel
theorem dX11_row_1 : decode cX11_row 1 = .ok (.getfield 43, 3) := by decide +kernel
theorem dX11_row_10 : decode cX11_row 10 = .ok (.getfield 143, 3) := by decide +kernel
theorem dX11_row_13 : decode cX11_row 13 = .ok (.istore_n 1, 1) := by decide +kernel
theorem dX11_row_14 : decode cX11_row 14 = .ok (.aload_n 0, 1) := by decide +kernel
theorem dX11_row_15 : decode cX11_row 15 = .ok (.getfield 13, 3) := by decide +kernel
theorem dX11_row_18 : decode cX11_row 18 = .ok (.iload_n 1, 1) := by decide +kernel
theorem dX11_row_19 : decode cX11_row 19 = .ok (.if_icmp .ne 11, 3) := by decide +kernel
theorem dX11_row_22 : decode cX11_row 22 = .ok (.aload_n 0, 1) := by decide +kernel
theorem dX11_row_23 : decode cX11_row 23 = .ok (.iconst 0, 1) := by decide +kernel
theorem dX11_row_24 : decode cX11_row 24 = .ok (.invokevirtual 224, 3) := by decide +kernel
theorem dX11_row_27 : decode cX11_row 27 = .ok (.ifCond .ne 11, 3) := by decide +kernel
theorem dX11_row_30 : decode cX11_row 30 = .ok (.aload_n 0, 1) := by decide +kernel
theorem dX11_row_31 : decode cX11_row 31 = .ok (.iconst 2, 1) := by decide +kernel
theorem dX11_row_32 : decode cX11_row 32 = .ok (.invokevirtual 89, 3) := by decide +kernel
theorem dX11_row_35 : decode cX11_row 35 = .ok (.pop, 1) := by decide +kernel
theorem dX11_row_36 : decode cX11_row 36 = .ok (.iconst 0, 1) := by decide +kernel
theorem dX11_row_37 : decode cX11_row 37 = .ok (.ireturn, 1) := by decide +kernel
theorem dX11_row_38 : decode cX11_row 38 = .ok (.aload_n 0, 1) := by decide +kernel
theorem dX11_row_39 : decode cX11_row 39 = .ok (.iconst 0, 1) := by decide +kernel
theorem dX11_row_4 : decode cX11_row 4 = .ok (.getfield 121, 3) := by decide +kernel
theorem dX11_row_40 : decode cX11_row 40 = .ok (.invokevirtual 227, 3) := by decide +kernel
theorem dX11_row_43 : decode cX11_row 43 = .ok (.aload_n 0, 1) := by decide +kernel
theorem dX11_row_44 : decode cX11_row 44 = .ok (.iconst 0, 1) := by decide +kernel
theorem dX11_row_45 : decode cX11_row 45 = .ok (.putfield 13, 3) := by decide +kernel
theorem dX11_row_48 : decode cX11_row 48 = .ok (.iconst 1, 1) := by decide +kernel
theorem dX11_row_49 : decode cX11_row 49 = .ok (.ireturn, 1) := by decide +kernel
theorem dX11_row_7 : decode cX11_row 7 = .ok (.getfield 139, 3) := by decide +kernel
theorem dX11_seat_0 : decode cX11_seat 0 = .ok (.iload_n 1, 1) := by decide +kernel
theorem dX11_seat_1 : decode cX11_seat 1 = .ok (.invokestatic 230, 3) := by decide +kernel
theorem dX11_seat_12 : decode cX11_seat 12 = .ok (.ifCond .ne 5, 3) := by decide +kernel
theorem dX11_seat_15 : decode cX11_seat 15 = .ok (.iconst (-1), 1) := by decide +kernel
theorem dX11_seat_16 : decode cX11_seat 16 = .ok (.ireturn, 1) := by decide +kernel
theorem dX11_seat_17 : decode cX11_seat 17 = .ok (.aload_n 0, 1) := by decide +kernel
theorem dX11_seat_18 : decode cX11_seat 18 = .ok (.getfield 59, 3) := by decide +kernel
theorem dX11_seat_21 : decode cX11_seat 21 = .ok (.iload_n 1, 1) := by decide +kernel
theorem dX11_seat_22 : decode cX11_seat 22 = .ok (.invokevirtual 350, 3) := by decide +kernel
theorem dX11_seat_25 : decode cX11_seat 25 = .ok (.aload_n 0, 1) := by decide +kernel
theorem dX11_seat_26 : decode cX11_seat 26 = .ok (.getfield 59, 3) := by decide +kernel
theorem dX11_seat_29 : decode cX11_seat 29 = .ok (.invokevirtual 353, 3) := by decide +kernel
theorem dX11_seat_32 : decode cX11_seat 32 = .ok (.pop, 1) := by decide +kernel
theorem dX11_seat_33 : decode cX11_seat 33 = .ok (.aload_n 0, 1) := by decide +kernel
theorem dX11_seat_34 : decode cX11_seat 34 = .ok (.getfield 59, 3) := by decide +kernel
theorem dX11_seat_37 : decode cX11_seat 37 = .ok (.getfield 356, 3) := by decide +kernel
theorem dX11_seat_4 : decode cX11_seat 4 = .ok (.ifCond .eq 11, 3) := by decide +kernel
theorem dX11_seat_40 : decode cX11_seat 40 = .ok (.iload_n 2, 1) := by decide +kernel
theorem dX11_seat_41 : decode cX11_seat 41 = .ok (.iaload, 1) := by decide +kernel
theorem dX11_seat_42 : decode cX11_seat 42 = .ok (.ireturn, 1) := by decide +kernel
theorem dX11_seat_7 : decode cX11_seat 7 = .ok (.aload_n 0, 1) := by decide +kernel
theorem dX11_seat_8 : decode cX11_seat 8 = .ok (.iload_n 2, 1) := by decide +kernel
theorem dX11_seat_9 : decode cX11_seat 9 = .ok (.invokevirtual 184, 3) := by decide +kernel
theorem dX11_seed_0 : decode cX11_seed 0 = .ok (.iload_n 1, 1) := by decide +kernel
theorem dX11_seed_1 : decode cX11_seed 1 = .ok (.ifCond .ge 11, 3) := by decide +kernel
theorem dX11_seed_10 : decode cX11_seed 10 = .ok (.iconst 0, 1) := by decide +kernel
theorem dX11_seed_11 : decode cX11_seed 11 = .ok (.ireturn, 1) := by decide +kernel
theorem dX11_seed_12 : decode cX11_seed 12 = .ok (.aload_n 0, 1) := by decide +kernel
theorem dX11_seed_13 : decode cX11_seed 13 = .ok (.iload_n 1, 1) := by decide +kernel
theorem dX11_seed_14 : decode cX11_seed 14 = .ok (.i2l, 1) := by decide +kernel
theorem dX11_seed_15 : decode cX11_seed 15 = .ok (.putfield 76, 3) := by decide +kernel
theorem dX11_seed_18 : decode cX11_seed 18 = .ok (.iconst 1, 1) := by decide +kernel
theorem dX11_seed_19 : decode cX11_seed 19 = .ok (.ireturn, 1) := by decide +kernel
theorem dX11_seed_4 : decode cX11_seed 4 = .ok (.aload_n 0, 1) := by decide +kernel
theorem dX11_seed_5 : decode cX11_seed 5 = .ok (.iconst 4, 1) := by decide +kernel
theorem dX11_seed_6 : decode cX11_seed 6 = .ok (.invokevirtual 89, 3) := by decide +kernel
theorem dX11_seed_9 : decode cX11_seed 9 = .ok (.pop, 1) := by decide +kernel
theorem dX11_seek_0 : decode cX11_seek 0 = .ok (.aload_n 0, 1) := by decide +kernel
theorem dX11_seek_1 : decode cX11_seek 1 = .ok (.getfield 52, 3) := by decide +kernel
theorem dX11_seek_11 : decode cX11_seek 11 = .ok (.getfield 129, 3) := by decide +kernel
theorem dX11_seek_14 : decode cX11_seek 14 = .ok (.getfield 149, 3) := by decide +kernel
theorem dX11_seek_17 : decode cX11_seek 17 = .ok (.aload_n 0, 1) := by decide +kernel
theorem dX11_seek_18 : decode cX11_seek 18 = .ok (.getfield 43, 3) := by decide +kernel
theorem dX11_seek_21 : decode cX11_seek 21 = .ok (.getfield 121, 3) := by decide +kernel
theorem dX11_seek_24 : decode cX11_seek 24 = .ok (.getfield 129, 3) := by decide +kernel
theorem dX11_seek_27 : decode cX11_seek 27 = .ok (.getfield 152, 3) := by decide +kernel
theorem dX11_seek_30 : decode cX11_seek 30 = .ok (.isub, 1) := by decide +kernel
theorem dX11_seek_31 : decode cX11_seek 31 = .ok (.invokevirtual 260, 3) := by decide +kernel
theorem dX11_seek_34 : decode cX11_seek 34 = .ok (.istore_n 1, 1) := by decide +kernel
theorem dX11_seek_35 : decode cX11_seek 35 = .ok (.iload_n 1, 1) := by decide +kernel
theorem dX11_seek_36 : decode cX11_seek 36 = .ok (.iconst 1, 1) := by decide +kernel
theorem dX11_seek_37 : decode cX11_seek 37 = .ok (.if_icmp .ne 10, 3) := by decide +kernel
theorem dX11_seek_4 : decode cX11_seek 4 = .ok (.aload_n 0, 1) := by decide +kernel
theorem dX11_seek_40 : decode cX11_seek 40 = .ok (.aload_n 0, 1) := by decide +kernel
theorem dX11_seek_41 : decode cX11_seek 41 = .ok (.getfield 52, 3) := by decide +kernel
theorem dX11_seek_44 : decode cX11_seek 44 = .ok (.invokevirtual 263, 3) := by decide +kernel
theorem dX11_seek_47 : decode cX11_seek 47 = .ok (.iload_n 1, 1) := by decide +kernel
theorem dX11_seek_48 : decode cX11_seek 48 = .ok (.ireturn, 1) := by decide +kernel
theorem dX11_seek_5 : decode cX11_seek 5 = .ok (.getfield 43, 3) := by decide +kernel
theorem dX11_seek_8 : decode cX11_seek 8 = .ok (.getfield 121, 3) := by decide +kernel
theorem dX11_stairs_0 : decode cX11_stairs 0 = .ok (.iload_n 1, 1) := by decide +kernel
theorem dX11_stairs_1 : decode cX11_stairs 1 = .ok (.invokestatic 230, 3) := by decide +kernel
theorem dX11_stairs_10 : decode cX11_stairs 10 = .ok (.lreturn, 1) := by decide +kernel
theorem dX11_stairs_11 : decode cX11_stairs 11 = .ok (.aload_n 0, 1) := by decide +kernel
theorem dX11_stairs_12 : decode cX11_stairs 12 = .ok (.getfield 66, 3) := by decide +kernel
theorem dX11_stairs_15 : decode cX11_stairs 15 = .ok (.aload_n 0, 1) := by decide +kernel
theorem dX11_stairs_16 : decode cX11_stairs 16 = .ok (.getfield 43, 3) := by decide +kernel
theorem dX11_stairs_19 : decode cX11_stairs 19 = .ok (.iload_n 1, 1) := by decide +kernel
theorem dX11_stairs_20 : decode cX11_stairs 20 = .ok (.invokevirtual 305, 3) := by decide +kernel
theorem dX11_stairs_23 : decode cX11_stairs 23 = .ok (.aload_n 0, 1) := by decide +kernel
theorem dX11_stairs_24 : decode cX11_stairs 24 = .ok (.getfield 66, 3) := by decide +kernel
theorem dX11_stairs_27 : decode cX11_stairs 27 = .ok (.aload_n 0, 1) := by decide +kernel
theorem dX11_stairs_28 : decode cX11_stairs 28 = .ok (.getfield 43, 3) := by decide +kernel
theorem dX11_stairs_31 : decode cX11_stairs 31 = .ok (.getfield 121, 3) := by decide +kernel
theorem dX11_stairs_34 : decode cX11_stairs 34 = .ok (.getfield 129, 3) := by decide +kernel
theorem dX11_stairs_37 : decode cX11_stairs 37 = .ok (.getfield 149, 3) := by decide +kernel
theorem dX11_stairs_4 : decode cX11_stairs 4 = .ok (.ifCond .ne 7, 3) := by decide +kernel
theorem dX11_stairs_40 : decode cX11_stairs 40 = .ok (.invokevirtual 322, 3) := by decide +kernel
theorem dX11_stairs_43 : decode cX11_stairs 43 = .ok (.lreturn, 1) := by decide +kernel
theorem dX11_stairs_7 : decode cX11_stairs 7 = .ok (.ldc2_w 303, 3) := by decide +kernel
theorem dX11_takeSets_0 : decode cX11_takeSets 0 = .ok (.aload_n 0, 1) := by decide +kernel
theorem dX11_takeSets_1 : decode cX11_takeSets 1 = .ok (.getfield 43, 3) := by decide +kernel
theorem dX11_takeSets_10 : decode cX11_takeSets 10 = .ok (.getfield 143, 3) := by decide +kernel
theorem dX11_takeSets_13 : decode cX11_takeSets 13 = .ok (.istore_n 2, 1) := by decide +kernel
theorem dX11_takeSets_14 : decode cX11_takeSets 14 = .ok (.iconst 0, 1) := by decide +kernel
theorem dX11_takeSets_15 : decode cX11_takeSets 15 = .ok (.istore_n 3, 1) := by decide +kernel
theorem dX11_takeSets_16 : decode cX11_takeSets 16 = .ok (.iload_n 3, 1) := by decide +kernel
theorem dX11_takeSets_17 : decode cX11_takeSets 17 = .ok (.iload_n 2, 1) := by decide +kernel
theorem dX11_takeSets_18 : decode cX11_takeSets 18 = .ok (.if_icmp .ge 37, 3) := by decide +kernel
theorem dX11_takeSets_21 : decode cX11_takeSets 21 = .ok (.iload_n 1, 1) := by decide +kernel
theorem dX11_takeSets_22 : decode cX11_takeSets 22 = .ok (.iload_n 3, 1) := by decide +kernel
theorem dX11_takeSets_23 : decode cX11_takeSets 23 = .ok (.iadd, 1) := by decide +kernel
theorem dX11_takeSets_24 : decode cX11_takeSets 24 = .ok (.aload_n 0, 1) := by decide +kernel
theorem dX11_takeSets_25 : decode cX11_takeSets 25 = .ok (.getfield 9, 3) := by decide +kernel
theorem dX11_takeSets_28 : decode cX11_takeSets 28 = .ok (.arraylength, 1) := by decide +kernel
theorem dX11_takeSets_29 : decode cX11_takeSets 29 = .ok (.if_icmp .ge 26, 3) := by decide +kernel
theorem dX11_takeSets_32 : decode cX11_takeSets 32 = .ok (.aload_n 0, 1) := by decide +kernel
theorem dX11_takeSets_33 : decode cX11_takeSets 33 = .ok (.getfield 43, 3) := by decide +kernel
theorem dX11_takeSets_36 : decode cX11_takeSets 36 = .ok (.getfield 206, 3) := by decide +kernel
theorem dX11_takeSets_39 : decode cX11_takeSets 39 = .ok (.iload_n 3, 1) := by decide +kernel
theorem dX11_takeSets_4 : decode cX11_takeSets 4 = .ok (.getfield 121, 3) := by decide +kernel
theorem dX11_takeSets_40 : decode cX11_takeSets 40 = .ok (.aload_n 0, 1) := by decide +kernel
theorem dX11_takeSets_41 : decode cX11_takeSets 41 = .ok (.getfield 9, 3) := by decide +kernel
theorem dX11_takeSets_44 : decode cX11_takeSets 44 = .ok (.iload_n 1, 1) := by decide +kernel
theorem dX11_takeSets_45 : decode cX11_takeSets 45 = .ok (.iload_n 3, 1) := by decide +kernel
theorem dX11_takeSets_46 : decode cX11_takeSets 46 = .ok (.iadd, 1) := by decide +kernel
theorem dX11_takeSets_47 : decode cX11_takeSets 47 = .ok (.iaload, 1) := by decide +kernel
theorem dX11_takeSets_48 : decode cX11_takeSets 48 = .ok (.iastore, 1) := by decide +kernel
theorem dX11_takeSets_49 : decode cX11_takeSets 49 = .ok (.iinc 3 1, 3) := by decide +kernel
theorem dX11_takeSets_52 : decode cX11_takeSets 52 = .ok (.goto (-36), 3) := by decide +kernel
theorem dX11_takeSets_55 : decode cX11_takeSets 55 = .ok (.return_, 1) := by decide +kernel
theorem dX11_takeSets_7 : decode cX11_takeSets 7 = .ok (.getfield 139, 3) := by decide +kernel
theorem dX11_trade_0 : decode cX11_trade 0 = .ok (.aload_n 0, 1) := by decide +kernel
theorem dX11_trade_1 : decode cX11_trade 1 = .ok (.iload_n 1, 1) := by decide +kernel
theorem dX11_trade_10 : decode cX11_trade 10 = .ok (.getfield 52, 3) := by decide +kernel
theorem dX11_trade_13 : decode cX11_trade 13 = .ok (.iload_n 1, 1) := by decide +kernel
theorem dX11_trade_14 : decode cX11_trade 14 = .ok (.iload_n 2, 1) := by decide +kernel
theorem dX11_trade_15 : decode cX11_trade 15 = .ok (.invokevirtual 285, 3) := by decide +kernel
theorem dX11_trade_18 : decode cX11_trade 18 = .ok (.goto 6, 3) := by decide +kernel
theorem dX11_trade_2 : decode cX11_trade 2 = .ok (.iload_n 2, 1) := by decide +kernel
theorem dX11_trade_21 : decode cX11_trade 21 = .ok (.ldc_w 281, 3) := by decide +kernel
theorem dX11_trade_24 : decode cX11_trade 24 = .ok (.ireturn, 1) := by decide +kernel
theorem dX11_trade_3 : decode cX11_trade 3 = .ok (.invokevirtual 278, 3) := by decide +kernel
theorem dX11_trade_6 : decode cX11_trade 6 = .ok (.ifCond .eq 15, 3) := by decide +kernel
theorem dX11_trade_9 : decode cX11_trade 9 = .ok (.aload_n 0, 1) := by decide +kernel
theorem dX11_worth_0 : decode cX11_worth 0 = .ok (.aload_n 0, 1) := by decide +kernel
theorem dX11_worth_1 : decode cX11_worth 1 = .ok (.getfield 43, 3) := by decide +kernel
theorem dX11_worth_4 : decode cX11_worth 4 = .ok (.invokevirtual 257, 3) := by decide +kernel
theorem dX11_worth_7 : decode cX11_worth 7 = .ok (.ireturn, 1) := by decide +kernel
theorem dX1_add_0 : decode cX1_add 0 = .ok (.aload_n 0, 1) := by decide +kernel
theorem dX1_add_1 : decode cX1_add 1 = .ok (.getfield 9, 3) := by decide +kernel
theorem dX1_add_10 : decode cX1_add 10 = .ok (.getfield 21, 3) := by decide +kernel
theorem dX1_add_13 : decode cX1_add 13 = .ok (.aload_n 0, 1) := by decide +kernel
theorem dX1_add_14 : decode cX1_add 14 = .ok (.getfield 9, 3) := by decide +kernel
theorem dX1_add_17 : decode cX1_add 17 = .ok (.iload_n 1, 1) := by decide +kernel
theorem dX1_add_18 : decode cX1_add 18 = .ok (.iastore, 1) := by decide +kernel
theorem dX1_add_19 : decode cX1_add 19 = .ok (.aload_n 0, 1) := by decide +kernel
theorem dX1_add_20 : decode cX1_add 20 = .ok (.getfield 25, 3) := by decide +kernel
theorem dX1_add_23 : decode cX1_add 23 = .ok (.aload_n 0, 1) := by decide +kernel
theorem dX1_add_24 : decode cX1_add 24 = .ok (.getfield 9, 3) := by decide +kernel
theorem dX1_add_27 : decode cX1_add 27 = .ok (.iload_n 2, 1) := by decide +kernel
theorem dX1_add_28 : decode cX1_add 28 = .ok (.iastore, 1) := by decide +kernel
theorem dX1_add_29 : decode cX1_add 29 = .ok (.aload_n 0, 1) := by decide +kernel
theorem dX1_add_30 : decode cX1_add 30 = .ok (.getfield 28, 3) := by decide +kernel
theorem dX1_add_33 : decode cX1_add 33 = .ok (.aload_n 0, 1) := by decide +kernel
theorem dX1_add_34 : decode cX1_add 34 = .ok (.getfield 9, 3) := by decide +kernel
theorem dX1_add_37 : decode cX1_add 37 = .ok (.iload_n 3, 1) := by decide +kernel
theorem dX1_add_38 : decode cX1_add 38 = .ok (.iastore, 1) := by decide +kernel
theorem dX1_add_39 : decode cX1_add 39 = .ok (.aload_n 0, 1) := by decide +kernel
theorem dX1_add_4 : decode cX1_add 4 = .ok (.iconst 5, 1) := by decide +kernel
theorem dX1_add_40 : decode cX1_add 40 = .ok (.getfield 31, 3) := by decide +kernel
theorem dX1_add_43 : decode cX1_add 43 = .ok (.aload_n 0, 1) := by decide +kernel
theorem dX1_add_44 : decode cX1_add 44 = .ok (.getfield 9, 3) := by decide +kernel
theorem dX1_add_47 : decode cX1_add 47 = .ok (.iload 4, 2) := by decide +kernel
theorem dX1_add_49 : decode cX1_add 49 = .ok (.iastore, 1) := by decide +kernel
theorem dX1_add_5 : decode cX1_add 5 = .ok (.if_icmp .lt 4, 3) := by decide +kernel
theorem dX1_add_50 : decode cX1_add 50 = .ok (.aload_n 0, 1) := by decide +kernel
theorem dX1_add_51 : decode cX1_add 51 = .ok (.getfield 34, 3) := by decide +kernel
theorem dX1_add_54 : decode cX1_add 54 = .ok (.aload_n 0, 1) := by decide +kernel
theorem dX1_add_55 : decode cX1_add 55 = .ok (.getfield 9, 3) := by decide +kernel
theorem dX1_add_58 : decode cX1_add 58 = .ok (.iconst 0, 1) := by decide +kernel
theorem dX1_add_59 : decode cX1_add 59 = .ok (.iastore, 1) := by decide +kernel
theorem dX1_add_60 : decode cX1_add 60 = .ok (.aload_n 0, 1) := by decide +kernel
theorem dX1_add_61 : decode cX1_add 61 = .ok (.dup, 1) := by decide +kernel
theorem dX1_add_62 : decode cX1_add 62 = .ok (.getfield 15, 3) := by decide +kernel
theorem dX1_add_65 : decode cX1_add 65 = .ok (.iload_n 2, 1) := by decide +kernel
theorem dX1_add_66 : decode cX1_add 66 = .ok (.iadd, 1) := by decide +kernel
theorem dX1_add_67 : decode cX1_add 67 = .ok (.putfield 15, 3) := by decide +kernel
theorem dX1_add_70 : decode cX1_add 70 = .ok (.aload_n 0, 1) := by decide +kernel
theorem dX1_add_71 : decode cX1_add 71 = .ok (.dup, 1) := by decide +kernel
theorem dX1_add_72 : decode cX1_add 72 = .ok (.getfield 9, 3) := by decide +kernel
theorem dX1_add_75 : decode cX1_add 75 = .ok (.iconst 1, 1) := by decide +kernel
theorem dX1_add_76 : decode cX1_add 76 = .ok (.iadd, 1) := by decide +kernel
theorem dX1_add_77 : decode cX1_add 77 = .ok (.putfield 9, 3) := by decide +kernel
theorem dX1_add_8 : decode cX1_add 8 = .ok (.return_, 1) := by decide +kernel
theorem dX1_add_80 : decode cX1_add 80 = .ok (.return_, 1) := by decide +kernel
theorem dX1_add_9 : decode cX1_add 9 = .ok (.aload_n 0, 1) := by decide +kernel
theorem dX1_clear_0 : decode cX1_clear 0 = .ok (.aload_n 0, 1) := by decide +kernel
theorem dX1_clear_1 : decode cX1_clear 1 = .ok (.iconst 0, 1) := by decide +kernel
theorem dX1_clear_10 : decode cX1_clear 10 = .ok (.aload_n 0, 1) := by decide +kernel
theorem dX1_clear_11 : decode cX1_clear 11 = .ok (.iconst 0, 1) := by decide +kernel
theorem dX1_clear_12 : decode cX1_clear 12 = .ok (.putfield 18, 3) := by decide +kernel
theorem dX1_clear_15 : decode cX1_clear 15 = .ok (.return_, 1) := by decide +kernel
theorem dX1_clear_2 : decode cX1_clear 2 = .ok (.putfield 9, 3) := by decide +kernel
theorem dX1_clear_5 : decode cX1_clear 5 = .ok (.aload_n 0, 1) := by decide +kernel
theorem dX1_clear_6 : decode cX1_clear 6 = .ok (.iconst 0, 1) := by decide +kernel
theorem dX1_clear_7 : decode cX1_clear 7 = .ok (.putfield 15, 3) := by decide +kernel
theorem dX2_addTeam_0 : decode cX2_addTeam 0 = .ok (.aload_n 0, 1) := by decide +kernel
theorem dX2_addTeam_1 : decode cX2_addTeam 1 = .ok (.getfield 32, 3) := by decide +kernel
theorem dX2_addTeam_10 : decode cX2_addTeam 10 = .ok (.getfield 36, 3) := by decide +kernel
theorem dX2_addTeam_13 : decode cX2_addTeam 13 = .ok (.aload_n 0, 1) := by decide +kernel
theorem dX2_addTeam_14 : decode cX2_addTeam 14 = .ok (.getfield 32, 3) := by decide +kernel
theorem dX2_addTeam_17 : decode cX2_addTeam 17 = .ok (.iload_n 1, 1) := by decide +kernel
theorem dX2_addTeam_18 : decode cX2_addTeam 18 = .ok (.iastore, 1) := by decide +kernel
theorem dX2_addTeam_19 : decode cX2_addTeam 19 = .ok (.aload_n 0, 1) := by decide +kernel
theorem dX2_addTeam_20 : decode cX2_addTeam 20 = .ok (.getfield 40, 3) := by decide +kernel
theorem dX2_addTeam_23 : decode cX2_addTeam 23 = .ok (.aload_n 0, 1) := by decide +kernel
theorem dX2_addTeam_24 : decode cX2_addTeam 24 = .ok (.getfield 32, 3) := by decide +kernel
theorem dX2_addTeam_27 : decode cX2_addTeam 27 = .ok (.iconst 0, 1) := by decide +kernel
theorem dX2_addTeam_28 : decode cX2_addTeam 28 = .ok (.bastore, 1) := by decide +kernel
theorem dX2_addTeam_29 : decode cX2_addTeam 29 = .ok (.aload_n 0, 1) := by decide +kernel
theorem dX2_addTeam_30 : decode cX2_addTeam 30 = .ok (.dup, 1) := by decide +kernel
theorem dX2_addTeam_31 : decode cX2_addTeam 31 = .ok (.getfield 32, 3) := by decide +kernel
theorem dX2_addTeam_34 : decode cX2_addTeam 34 = .ok (.iconst 1, 1) := by decide +kernel
theorem dX2_addTeam_35 : decode cX2_addTeam 35 = .ok (.iadd, 1) := by decide +kernel
theorem dX2_addTeam_36 : decode cX2_addTeam 36 = .ok (.putfield 32, 3) := by decide +kernel
theorem dX2_addTeam_39 : decode cX2_addTeam 39 = .ok (.return_, 1) := by decide +kernel
theorem dX2_addTeam_4 : decode cX2_addTeam 4 = .ok (.bipush 6, 2) := by decide +kernel
theorem dX2_addTeam_6 : decode cX2_addTeam 6 = .ok (.if_icmp .ge 33, 3) := by decide +kernel
theorem dX2_addTeam_9 : decode cX2_addTeam 9 = .ok (.aload_n 0, 1) := by decide +kernel
theorem dX2_addTie_0 : decode cX2_addTie 0 = .ok (.aload_n 0, 1) := by decide +kernel
theorem dX2_addTie_1 : decode cX2_addTie 1 = .ok (.getfield 47, 3) := by decide +kernel
theorem dX2_addTie_10 : decode cX2_addTie 10 = .ok (.getfield 50, 3) := by decide +kernel
theorem dX2_addTie_13 : decode cX2_addTie 13 = .ok (.aload_n 0, 1) := by decide +kernel
theorem dX2_addTie_14 : decode cX2_addTie 14 = .ok (.getfield 47, 3) := by decide +kernel
theorem dX2_addTie_17 : decode cX2_addTie 17 = .ok (.iload_n 1, 1) := by decide +kernel
theorem dX2_addTie_18 : decode cX2_addTie 18 = .ok (.iastore, 1) := by decide +kernel
theorem dX2_addTie_19 : decode cX2_addTie 19 = .ok (.aload_n 0, 1) := by decide +kernel
theorem dX2_addTie_20 : decode cX2_addTie 20 = .ok (.getfield 53, 3) := by decide +kernel
theorem dX2_addTie_23 : decode cX2_addTie 23 = .ok (.aload_n 0, 1) := by decide +kernel
theorem dX2_addTie_24 : decode cX2_addTie 24 = .ok (.getfield 47, 3) := by decide +kernel
theorem dX2_addTie_27 : decode cX2_addTie 27 = .ok (.iload_n 2, 1) := by decide +kernel
theorem dX2_addTie_28 : decode cX2_addTie 28 = .ok (.iastore, 1) := by decide +kernel
theorem dX2_addTie_29 : decode cX2_addTie 29 = .ok (.aload_n 0, 1) := by decide +kernel
theorem dX2_addTie_30 : decode cX2_addTie 30 = .ok (.getfield 56, 3) := by decide +kernel
theorem dX2_addTie_33 : decode cX2_addTie 33 = .ok (.aload_n 0, 1) := by decide +kernel
theorem dX2_addTie_34 : decode cX2_addTie 34 = .ok (.getfield 47, 3) := by decide +kernel
theorem dX2_addTie_37 : decode cX2_addTie 37 = .ok (.iload_n 3, 1) := by decide +kernel
theorem dX2_addTie_38 : decode cX2_addTie 38 = .ok (.iastore, 1) := by decide +kernel
theorem dX2_addTie_39 : decode cX2_addTie 39 = .ok (.aload_n 0, 1) := by decide +kernel
theorem dX2_addTie_4 : decode cX2_addTie 4 = .ok (.bipush 30, 2) := by decide +kernel
theorem dX2_addTie_40 : decode cX2_addTie 40 = .ok (.dup, 1) := by decide +kernel
theorem dX2_addTie_41 : decode cX2_addTie 41 = .ok (.getfield 47, 3) := by decide +kernel
theorem dX2_addTie_44 : decode cX2_addTie 44 = .ok (.iconst 1, 1) := by decide +kernel
theorem dX2_addTie_45 : decode cX2_addTie 45 = .ok (.iadd, 1) := by decide +kernel
theorem dX2_addTie_46 : decode cX2_addTie 46 = .ok (.putfield 47, 3) := by decide +kernel
theorem dX2_addTie_49 : decode cX2_addTie 49 = .ok (.return_, 1) := by decide +kernel
theorem dX2_addTie_6 : decode cX2_addTie 6 = .ok (.if_icmp .ge 43, 3) := by decide +kernel
theorem dX2_addTie_9 : decode cX2_addTie 9 = .ok (.aload_n 0, 1) := by decide +kernel
theorem dX2_clear_0 : decode cX2_clear 0 = .ok (.aload_n 0, 1) := by decide +kernel
theorem dX2_clear_1 : decode cX2_clear 1 = .ok (.getfield 12, 3) := by decide +kernel
theorem dX2_clear_11 : decode cX2_clear 11 = .ok (.iconst 0, 1) := by decide +kernel
theorem dX2_clear_12 : decode cX2_clear 12 = .ok (.putfield 71, 3) := by decide +kernel
theorem dX2_clear_15 : decode cX2_clear 15 = .ok (.aload_n 0, 1) := by decide +kernel
theorem dX2_clear_16 : decode cX2_clear 16 = .ok (.getfield 28, 3) := by decide +kernel
theorem dX2_clear_19 : decode cX2_clear 19 = .ok (.invokevirtual 74, 3) := by decide +kernel
theorem dX2_clear_22 : decode cX2_clear 22 = .ok (.aload_n 0, 1) := by decide +kernel
theorem dX2_clear_23 : decode cX2_clear 23 = .ok (.iconst 0, 1) := by decide +kernel
theorem dX2_clear_24 : decode cX2_clear 24 = .ok (.putfield 32, 3) := by decide +kernel
theorem dX2_clear_27 : decode cX2_clear 27 = .ok (.aload_n 0, 1) := by decide +kernel
theorem dX2_clear_28 : decode cX2_clear 28 = .ok (.iconst 0, 1) := by decide +kernel
theorem dX2_clear_29 : decode cX2_clear 29 = .ok (.putfield 47, 3) := by decide +kernel
theorem dX2_clear_32 : decode cX2_clear 32 = .ok (.aload_n 0, 1) := by decide +kernel
theorem dX2_clear_33 : decode cX2_clear 33 = .ok (.bipush 50, 2) := by decide +kernel
theorem dX2_clear_35 : decode cX2_clear 35 = .ok (.putfield 65, 3) := by decide +kernel
theorem dX2_clear_38 : decode cX2_clear 38 = .ok (.iconst 0, 1) := by decide +kernel
theorem dX2_clear_39 : decode cX2_clear 39 = .ok (.istore_n 1, 1) := by decide +kernel
theorem dX2_clear_4 : decode cX2_clear 4 = .ok (.invokevirtual 68, 3) := by decide +kernel
theorem dX2_clear_40 : decode cX2_clear 40 = .ok (.iload_n 1, 1) := by decide +kernel
theorem dX2_clear_41 : decode cX2_clear 41 = .ok (.iconst 5, 1) := by decide +kernel
theorem dX2_clear_42 : decode cX2_clear 42 = .ok (.if_icmp .ge 23, 3) := by decide +kernel
theorem dX2_clear_45 : decode cX2_clear 45 = .ok (.aload_n 0, 1) := by decide +kernel
theorem dX2_clear_46 : decode cX2_clear 46 = .ok (.getfield 59, 3) := by decide +kernel
theorem dX2_clear_49 : decode cX2_clear 49 = .ok (.iload_n 1, 1) := by decide +kernel
theorem dX2_clear_50 : decode cX2_clear 50 = .ok (.iconst 0, 1) := by decide +kernel
theorem dX2_clear_51 : decode cX2_clear 51 = .ok (.iastore, 1) := by decide +kernel
theorem dX2_clear_52 : decode cX2_clear 52 = .ok (.aload_n 0, 1) := by decide +kernel
theorem dX2_clear_53 : decode cX2_clear 53 = .ok (.getfield 62, 3) := by decide +kernel
theorem dX2_clear_56 : decode cX2_clear 56 = .ok (.iload_n 1, 1) := by decide +kernel
theorem dX2_clear_57 : decode cX2_clear 57 = .ok (.iconst 0, 1) := by decide +kernel
theorem dX2_clear_58 : decode cX2_clear 58 = .ok (.iastore, 1) := by decide +kernel
theorem dX2_clear_59 : decode cX2_clear 59 = .ok (.iinc 1 1, 3) := by decide +kernel
theorem dX2_clear_62 : decode cX2_clear 62 = .ok (.goto (-22), 3) := by decide +kernel
theorem dX2_clear_65 : decode cX2_clear 65 = .ok (.return_, 1) := by decide +kernel
theorem dX2_clear_7 : decode cX2_clear 7 = .ok (.aload_n 0, 1) := by decide +kernel
theorem dX2_clear_8 : decode cX2_clear 8 = .ok (.getfield 21, 3) := by decide +kernel
theorem dX2_finish_0 : decode cX2_finish 0 = .ok (.aload_n 0, 1) := by decide +kernel
theorem dX2_finish_1 : decode cX2_finish 1 = .ok (.getfield 21, 3) := by decide +kernel
theorem dX2_finish_10 : decode cX2_finish 10 = .ok (.bipush 6, 2) := by decide +kernel
theorem dX2_finish_12 : decode cX2_finish 12 = .ok (.if_icmp .ge 16, 3) := by decide +kernel
theorem dX2_finish_15 : decode cX2_finish 15 = .ok (.aload_n 0, 1) := by decide +kernel
theorem dX2_finish_16 : decode cX2_finish 16 = .ok (.getfield 44, 3) := by decide +kernel
theorem dX2_finish_19 : decode cX2_finish 19 = .ok (.iload_n 1, 1) := by decide +kernel
theorem dX2_finish_20 : decode cX2_finish 20 = .ok (.iconst (-1), 1) := by decide +kernel
theorem dX2_finish_21 : decode cX2_finish 21 = .ok (.iastore, 1) := by decide +kernel
theorem dX2_finish_22 : decode cX2_finish 22 = .ok (.iinc 1 1, 3) := by decide +kernel
theorem dX2_finish_25 : decode cX2_finish 25 = .ok (.goto (-16), 3) := by decide +kernel
theorem dX2_finish_28 : decode cX2_finish 28 = .ok (.iconst 0, 1) := by decide +kernel
theorem dX2_finish_29 : decode cX2_finish 29 = .ok (.istore_n 1, 1) := by decide +kernel
theorem dX2_finish_30 : decode cX2_finish 30 = .ok (.iload_n 1, 1) := by decide +kernel
theorem dX2_finish_31 : decode cX2_finish 31 = .ok (.aload_n 0, 1) := by decide +kernel
theorem dX2_finish_32 : decode cX2_finish 32 = .ok (.getfield 21, 3) := by decide +kernel
theorem dX2_finish_35 : decode cX2_finish 35 = .ok (.getfield 71, 3) := by decide +kernel
theorem dX2_finish_38 : decode cX2_finish 38 = .ok (.if_icmp .ge 24, 3) := by decide +kernel
theorem dX2_finish_4 : decode cX2_finish 4 = .ok (.invokevirtual 75, 3) := by decide +kernel
theorem dX2_finish_41 : decode cX2_finish 41 = .ok (.aload_n 0, 1) := by decide +kernel
theorem dX2_finish_42 : decode cX2_finish 42 = .ok (.getfield 44, 3) := by decide +kernel
theorem dX2_finish_45 : decode cX2_finish 45 = .ok (.aload_n 0, 1) := by decide +kernel
theorem dX2_finish_46 : decode cX2_finish 46 = .ok (.getfield 21, 3) := by decide +kernel
theorem dX2_finish_49 : decode cX2_finish 49 = .ok (.getfield 78, 3) := by decide +kernel
theorem dX2_finish_52 : decode cX2_finish 52 = .ok (.iload_n 1, 1) := by decide +kernel
theorem dX2_finish_53 : decode cX2_finish 53 = .ok (.iaload, 1) := by decide +kernel
theorem dX2_finish_54 : decode cX2_finish 54 = .ok (.iload_n 1, 1) := by decide +kernel
theorem dX2_finish_55 : decode cX2_finish 55 = .ok (.iastore, 1) := by decide +kernel
theorem dX2_finish_56 : decode cX2_finish 56 = .ok (.iinc 1 1, 3) := by decide +kernel
theorem dX2_finish_59 : decode cX2_finish 59 = .ok (.goto (-29), 3) := by decide +kernel
theorem dX2_finish_62 : decode cX2_finish 62 = .ok (.return_, 1) := by decide +kernel
theorem dX2_finish_7 : decode cX2_finish 7 = .ok (.iconst 0, 1) := by decide +kernel
theorem dX2_finish_8 : decode cX2_finish 8 = .ok (.istore_n 1, 1) := by decide +kernel
theorem dX2_finish_9 : decode cX2_finish 9 = .ok (.iload_n 1, 1) := by decide +kernel
theorem dX3_add_0 : decode cX3_add 0 = .ok (.aload_n 0, 1) := by decide +kernel
theorem dX3_add_1 : decode cX3_add 1 = .ok (.getfield 9, 3) := by decide +kernel
theorem dX3_add_10 : decode cX3_add 10 = .ok (.aload_n 0, 1) := by decide +kernel
theorem dX3_add_100 : decode cX3_add 100 = .ok (.iload 4, 2) := by decide +kernel
theorem dX3_add_102 : decode cX3_add 102 = .ok (.iadd, 1) := by decide +kernel
theorem dX3_add_103 : decode cX3_add 103 = .ok (.iconst 0, 1) := by decide +kernel
theorem dX3_add_104 : decode cX3_add 104 = .ok (.iastore, 1) := by decide +kernel
theorem dX3_add_105 : decode cX3_add 105 = .ok (.iinc 4 1, 3) := by decide +kernel
theorem dX3_add_108 : decode cX3_add 108 = .ok (.goto (-24), 3) := by decide +kernel
theorem dX3_add_11 : decode cX3_add 11 = .ok (.getfield 15, 3) := by decide +kernel
theorem dX3_add_111 : decode cX3_add 111 = .ok (.aload_n 0, 1) := by decide +kernel
theorem dX3_add_112 : decode cX3_add 112 = .ok (.dup, 1) := by decide +kernel
theorem dX3_add_113 : decode cX3_add 113 = .ok (.getfield 9, 3) := by decide +kernel
theorem dX3_add_116 : decode cX3_add 116 = .ok (.iconst 1, 1) := by decide +kernel
theorem dX3_add_117 : decode cX3_add 117 = .ok (.iadd, 1) := by decide +kernel
theorem dX3_add_118 : decode cX3_add 118 = .ok (.putfield 9, 3) := by decide +kernel
theorem dX3_add_121 : decode cX3_add 121 = .ok (.return_, 1) := by decide +kernel
theorem dX3_add_14 : decode cX3_add 14 = .ok (.aload_n 0, 1) := by decide +kernel
theorem dX3_add_15 : decode cX3_add 15 = .ok (.getfield 9, 3) := by decide +kernel
theorem dX3_add_18 : decode cX3_add 18 = .ok (.iload_n 1, 1) := by decide +kernel
theorem dX3_add_19 : decode cX3_add 19 = .ok (.iastore, 1) := by decide +kernel
theorem dX3_add_20 : decode cX3_add 20 = .ok (.aload_n 0, 1) := by decide +kernel
theorem dX3_add_21 : decode cX3_add 21 = .ok (.getfield 19, 3) := by decide +kernel
theorem dX3_add_24 : decode cX3_add 24 = .ok (.aload_n 0, 1) := by decide +kernel
theorem dX3_add_25 : decode cX3_add 25 = .ok (.getfield 9, 3) := by decide +kernel
theorem dX3_add_28 : decode cX3_add 28 = .ok (.iload_n 2, 1) := by decide +kernel
theorem dX3_add_29 : decode cX3_add 29 = .ok (.iastore, 1) := by decide +kernel
theorem dX3_add_30 : decode cX3_add 30 = .ok (.aload_n 0, 1) := by decide +kernel
theorem dX3_add_31 : decode cX3_add 31 = .ok (.getfield 22, 3) := by decide +kernel
theorem dX3_add_34 : decode cX3_add 34 = .ok (.aload_n 0, 1) := by decide +kernel
theorem dX3_add_35 : decode cX3_add 35 = .ok (.getfield 9, 3) := by decide +kernel
theorem dX3_add_38 : decode cX3_add 38 = .ok (.iload_n 3, 1) := by decide +kernel
theorem dX3_add_39 : decode cX3_add 39 = .ok (.iastore, 1) := by decide +kernel
theorem dX3_add_4 : decode cX3_add 4 = .ok (.bipush 12, 2) := by decide +kernel
theorem dX3_add_40 : decode cX3_add 40 = .ok (.aload_n 0, 1) := by decide +kernel
theorem dX3_add_41 : decode cX3_add 41 = .ok (.getfield 25, 3) := by decide +kernel
theorem dX3_add_44 : decode cX3_add 44 = .ok (.aload_n 0, 1) := by decide +kernel
theorem dX3_add_45 : decode cX3_add 45 = .ok (.getfield 9, 3) := by decide +kernel
theorem dX3_add_48 : decode cX3_add 48 = .ok (.iconst 0, 1) := by decide +kernel
theorem dX3_add_49 : decode cX3_add 49 = .ok (.iastore, 1) := by decide +kernel
theorem dX3_add_50 : decode cX3_add 50 = .ok (.aload_n 0, 1) := by decide +kernel
theorem dX3_add_51 : decode cX3_add 51 = .ok (.getfield 28, 3) := by decide +kernel
theorem dX3_add_54 : decode cX3_add 54 = .ok (.aload_n 0, 1) := by decide +kernel
theorem dX3_add_55 : decode cX3_add 55 = .ok (.getfield 9, 3) := by decide +kernel
theorem dX3_add_58 : decode cX3_add 58 = .ok (.bipush 100, 2) := by decide +kernel
theorem dX3_add_6 : decode cX3_add 6 = .ok (.if_icmp .lt 4, 3) := by decide +kernel
theorem dX3_add_60 : decode cX3_add 60 = .ok (.iastore, 1) := by decide +kernel
theorem dX3_add_61 : decode cX3_add 61 = .ok (.aload_n 0, 1) := by decide +kernel
theorem dX3_add_62 : decode cX3_add 62 = .ok (.getfield 31, 3) := by decide +kernel
theorem dX3_add_65 : decode cX3_add 65 = .ok (.aload_n 0, 1) := by decide +kernel
theorem dX3_add_66 : decode cX3_add 66 = .ok (.getfield 9, 3) := by decide +kernel
theorem dX3_add_69 : decode cX3_add 69 = .ok (.iconst (-1), 1) := by decide +kernel
theorem dX3_add_70 : decode cX3_add 70 = .ok (.iastore, 1) := by decide +kernel
theorem dX3_add_71 : decode cX3_add 71 = .ok (.aload_n 0, 1) := by decide +kernel
theorem dX3_add_72 : decode cX3_add 72 = .ok (.getfield 34, 3) := by decide +kernel
theorem dX3_add_75 : decode cX3_add 75 = .ok (.aload_n 0, 1) := by decide +kernel
theorem dX3_add_76 : decode cX3_add 76 = .ok (.getfield 9, 3) := by decide +kernel
theorem dX3_add_79 : decode cX3_add 79 = .ok (.iconst 0, 1) := by decide +kernel
theorem dX3_add_80 : decode cX3_add 80 = .ok (.iastore, 1) := by decide +kernel
theorem dX3_add_81 : decode cX3_add 81 = .ok (.iconst 0, 1) := by decide +kernel
theorem dX3_add_82 : decode cX3_add 82 = .ok (.istore 4, 2) := by decide +kernel
theorem dX3_add_84 : decode cX3_add 84 = .ok (.iload 4, 2) := by decide +kernel
theorem dX3_add_86 : decode cX3_add 86 = .ok (.iconst 5, 1) := by decide +kernel
theorem dX3_add_87 : decode cX3_add 87 = .ok (.if_icmp .ge 24, 3) := by decide +kernel
theorem dX3_add_9 : decode cX3_add 9 = .ok (.return_, 1) := by decide +kernel
theorem dX3_add_90 : decode cX3_add 90 = .ok (.aload_n 0, 1) := by decide +kernel
theorem dX3_add_91 : decode cX3_add 91 = .ok (.getfield 37, 3) := by decide +kernel
theorem dX3_add_94 : decode cX3_add 94 = .ok (.aload_n 0, 1) := by decide +kernel
theorem dX3_add_95 : decode cX3_add 95 = .ok (.getfield 9, 3) := by decide +kernel
theorem dX3_add_98 : decode cX3_add 98 = .ok (.iconst 5, 1) := by decide +kernel
theorem dX3_add_99 : decode cX3_add 99 = .ok (.imul, 1) := by decide +kernel
theorem dX3_listSuiting_0 : decode cX3_listSuiting 0 = .ok (.iconst 0, 1) := by decide +kernel
theorem dX3_listSuiting_1 : decode cX3_listSuiting 1 = .ok (.istore_n 1, 1) := by decide +kernel
theorem dX3_listSuiting_10 : decode cX3_listSuiting 10 = .ok (.iconst 0, 1) := by decide +kernel
theorem dX3_listSuiting_11 : decode cX3_listSuiting 11 = .ok (.istore_n 2, 1) := by decide +kernel
theorem dX3_listSuiting_12 : decode cX3_listSuiting 12 = .ok (.iconst 0, 1) := by decide +kernel
theorem dX3_listSuiting_13 : decode cX3_listSuiting 13 = .ok (.istore_n 3, 1) := by decide +kernel
theorem dX3_listSuiting_14 : decode cX3_listSuiting 14 = .ok (.iload_n 3, 1) := by decide +kernel
theorem dX3_listSuiting_15 : decode cX3_listSuiting 15 = .ok (.bipush 31, 2) := by decide +kernel
theorem dX3_listSuiting_17 : decode cX3_listSuiting 17 = .ok (.if_icmp .gt 39, 3) := by decide +kernel
theorem dX3_listSuiting_2 : decode cX3_listSuiting 2 = .ok (.iload_n 1, 1) := by decide +kernel
theorem dX3_listSuiting_20 : decode cX3_listSuiting 20 = .ok (.aload_n 0, 1) := by decide +kernel
theorem dX3_listSuiting_21 : decode cX3_listSuiting 21 = .ok (.iload_n 1, 1) := by decide +kernel
theorem dX3_listSuiting_22 : decode cX3_listSuiting 22 = .ok (.iload_n 3, 1) := by decide +kernel
theorem dX3_listSuiting_23 : decode cX3_listSuiting 23 = .ok (.invokevirtual 52, 3) := by decide +kernel
theorem dX3_listSuiting_26 : decode cX3_listSuiting 26 = .ok (.ifCond .eq 24, 3) := by decide +kernel
theorem dX3_listSuiting_29 : decode cX3_listSuiting 29 = .ok (.iload_n 2, 1) := by decide +kernel
theorem dX3_listSuiting_3 : decode cX3_listSuiting 3 = .ok (.aload_n 0, 1) := by decide +kernel
theorem dX3_listSuiting_30 : decode cX3_listSuiting 30 = .ok (.bipush 10, 2) := by decide +kernel
theorem dX3_listSuiting_32 : decode cX3_listSuiting 32 = .ok (.if_icmp .ge 18, 3) := by decide +kernel
theorem dX3_listSuiting_35 : decode cX3_listSuiting 35 = .ok (.aload_n 0, 1) := by decide +kernel
theorem dX3_listSuiting_36 : decode cX3_listSuiting 36 = .ok (.getfield 40, 3) := by decide +kernel
theorem dX3_listSuiting_39 : decode cX3_listSuiting 39 = .ok (.iload_n 1, 1) := by decide +kernel
theorem dX3_listSuiting_4 : decode cX3_listSuiting 4 = .ok (.getfield 9, 3) := by decide +kernel
theorem dX3_listSuiting_40 : decode cX3_listSuiting 40 = .ok (.bipush 10, 2) := by decide +kernel
theorem dX3_listSuiting_42 : decode cX3_listSuiting 42 = .ok (.imul, 1) := by decide +kernel
theorem dX3_listSuiting_43 : decode cX3_listSuiting 43 = .ok (.iload_n 2, 1) := by decide +kernel
theorem dX3_listSuiting_44 : decode cX3_listSuiting 44 = .ok (.iadd, 1) := by decide +kernel
theorem dX3_listSuiting_45 : decode cX3_listSuiting 45 = .ok (.iload_n 3, 1) := by decide +kernel
theorem dX3_listSuiting_46 : decode cX3_listSuiting 46 = .ok (.iastore, 1) := by decide +kernel
theorem dX3_listSuiting_47 : decode cX3_listSuiting 47 = .ok (.iinc 2 1, 3) := by decide +kernel
theorem dX3_listSuiting_50 : decode cX3_listSuiting 50 = .ok (.iinc 3 1, 3) := by decide +kernel
theorem dX3_listSuiting_53 : decode cX3_listSuiting 53 = .ok (.goto (-39), 3) := by decide +kernel
theorem dX3_listSuiting_56 : decode cX3_listSuiting 56 = .ok (.aload_n 0, 1) := by decide +kernel
theorem dX3_listSuiting_57 : decode cX3_listSuiting 57 = .ok (.getfield 43, 3) := by decide +kernel
theorem dX3_listSuiting_60 : decode cX3_listSuiting 60 = .ok (.iload_n 1, 1) := by decide +kernel
theorem dX3_listSuiting_61 : decode cX3_listSuiting 61 = .ok (.iload_n 2, 1) := by decide +kernel
theorem dX3_listSuiting_62 : decode cX3_listSuiting 62 = .ok (.iastore, 1) := by decide +kernel
theorem dX3_listSuiting_63 : decode cX3_listSuiting 63 = .ok (.iinc 1 1, 3) := by decide +kernel
theorem dX3_listSuiting_66 : decode cX3_listSuiting 66 = .ok (.goto (-64), 3) := by decide +kernel
theorem dX3_listSuiting_69 : decode cX3_listSuiting 69 = .ok (.return_, 1) := by decide +kernel
theorem dX3_listSuiting_7 : decode cX3_listSuiting 7 = .ok (.if_icmp .ge 62, 3) := by decide +kernel
theorem dX4_aloneWith_0 : decode cX4_aloneWith 0 = .ok (.aload_n 0, 1) := by decide +kernel
theorem dX4_aloneWith_1 : decode cX4_aloneWith 1 = .ok (.getfield 9, 3) := by decide +kernel
theorem dX4_aloneWith_101 : decode cX4_aloneWith 101 = .ok (.invokevirtual 143, 3) := by decide +kernel
theorem dX4_aloneWith_104 : decode cX4_aloneWith 104 = .ok (.ifCond .eq 50, 3) := by decide +kernel
theorem dX4_aloneWith_107 : decode cX4_aloneWith 107 = .ok (.iload 4, 2) := by decide +kernel
theorem dX4_aloneWith_109 : decode cX4_aloneWith 109 = .ok (.aload_n 0, 1) := by decide +kernel
theorem dX4_aloneWith_11 : decode cX4_aloneWith 11 = .ok (.iload_n 1, 1) := by decide +kernel
theorem dX4_aloneWith_110 : decode cX4_aloneWith 110 = .ok (.getfield 28, 3) := by decide +kernel
theorem dX4_aloneWith_113 : decode cX4_aloneWith 113 = .ok (.getfield 39, 3) := by decide +kernel
theorem dX4_aloneWith_116 : decode cX4_aloneWith 116 = .ok (.getfield 147, 3) := by decide +kernel
theorem dX4_aloneWith_119 : decode cX4_aloneWith 119 = .ok (.iload_n 1, 1) := by decide +kernel
theorem dX4_aloneWith_12 : decode cX4_aloneWith 12 = .ok (.iload_n 2, 1) := by decide +kernel
theorem dX4_aloneWith_120 : decode cX4_aloneWith 120 = .ok (.iconst 5, 1) := by decide +kernel
theorem dX4_aloneWith_121 : decode cX4_aloneWith 121 = .ok (.imul, 1) := by decide +kernel
theorem dX4_aloneWith_122 : decode cX4_aloneWith 122 = .ok (.iload 5, 2) := by decide +kernel
theorem dX4_aloneWith_124 : decode cX4_aloneWith 124 = .ok (.iadd, 1) := by decide +kernel
theorem dX4_aloneWith_125 : decode cX4_aloneWith 125 = .ok (.iaload, 1) := by decide +kernel
theorem dX4_aloneWith_126 : decode cX4_aloneWith 126 = .ok (.iadd, 1) := by decide +kernel
theorem dX4_aloneWith_127 : decode cX4_aloneWith 127 = .ok (.istore 4, 2) := by decide +kernel
theorem dX4_aloneWith_129 : decode cX4_aloneWith 129 = .ok (.iload 4, 2) := by decide +kernel
theorem dX4_aloneWith_13 : decode cX4_aloneWith 13 = .ok (.iastore, 1) := by decide +kernel
theorem dX4_aloneWith_131 : decode cX4_aloneWith 131 = .ok (.aload_n 0, 1) := by decide +kernel
theorem dX4_aloneWith_132 : decode cX4_aloneWith 132 = .ok (.iload 5, 2) := by decide +kernel
theorem dX4_aloneWith_134 : decode cX4_aloneWith 134 = .ok (.invokevirtual 101, 3) := by decide +kernel
theorem dX4_aloneWith_137 : decode cX4_aloneWith 137 = .ok (.ifCond .le 13, 3) := by decide +kernel
theorem dX4_aloneWith_14 : decode cX4_aloneWith 14 = .ok (.iconst 0, 1) := by decide +kernel
theorem dX4_aloneWith_140 : decode cX4_aloneWith 140 = .ok (.aload_n 0, 1) := by decide +kernel
theorem dX4_aloneWith_141 : decode cX4_aloneWith 141 = .ok (.getfield 28, 3) := by decide +kernel
theorem dX4_aloneWith_144 : decode cX4_aloneWith 144 = .ok (.getfield 169, 3) := by decide +kernel
theorem dX4_aloneWith_147 : decode cX4_aloneWith 147 = .ok (.goto 4, 3) := by decide +kernel
theorem dX4_aloneWith_15 : decode cX4_aloneWith 15 = .ok (.istore 4, 2) := by decide +kernel
theorem dX4_aloneWith_150 : decode cX4_aloneWith 150 = .ok (.iconst 0, 1) := by decide +kernel
theorem dX4_aloneWith_151 : decode cX4_aloneWith 151 = .ok (.isub, 1) := by decide +kernel
theorem dX4_aloneWith_152 : decode cX4_aloneWith 152 = .ok (.istore 4, 2) := by decide +kernel
theorem dX4_aloneWith_154 : decode cX4_aloneWith 154 = .ok (.iinc 5 1, 3) := by decide +kernel
theorem dX4_aloneWith_157 : decode cX4_aloneWith 157 = .ok (.goto (-66), 3) := by decide +kernel
theorem dX4_aloneWith_160 : decode cX4_aloneWith 160 = .ok (.aload_n 0, 1) := by decide +kernel
theorem dX4_aloneWith_161 : decode cX4_aloneWith 161 = .ok (.getfield 9, 3) := by decide +kernel
theorem dX4_aloneWith_164 : decode cX4_aloneWith 164 = .ok (.iload_n 1, 1) := by decide +kernel
theorem dX4_aloneWith_165 : decode cX4_aloneWith 165 = .ok (.iload_n 3, 1) := by decide +kernel
theorem dX4_aloneWith_166 : decode cX4_aloneWith 166 = .ok (.iastore, 1) := by decide +kernel
theorem dX4_aloneWith_167 : decode cX4_aloneWith 167 = .ok (.iload 4, 2) := by decide +kernel
theorem dX4_aloneWith_169 : decode cX4_aloneWith 169 = .ok (.ireturn, 1) := by decide +kernel
theorem dX4_aloneWith_17 : decode cX4_aloneWith 17 = .ok (.iconst 0, 1) := by decide +kernel
theorem dX4_aloneWith_18 : decode cX4_aloneWith 18 = .ok (.istore 5, 2) := by decide +kernel
theorem dX4_aloneWith_20 : decode cX4_aloneWith 20 = .ok (.iload 5, 2) := by decide +kernel
theorem dX4_aloneWith_22 : decode cX4_aloneWith 22 = .ok (.aload_n 0, 1) := by decide +kernel
theorem dX4_aloneWith_23 : decode cX4_aloneWith 23 = .ok (.getfield 28, 3) := by decide +kernel
theorem dX4_aloneWith_26 : decode cX4_aloneWith 26 = .ok (.getfield 127, 3) := by decide +kernel
theorem dX4_aloneWith_29 : decode cX4_aloneWith 29 = .ok (.if_icmp .ge 59, 3) := by decide +kernel
theorem dX4_aloneWith_32 : decode cX4_aloneWith 32 = .ok (.aload_n 0, 1) := by decide +kernel
theorem dX4_aloneWith_33 : decode cX4_aloneWith 33 = .ok (.getfield 28, 3) := by decide +kernel
theorem dX4_aloneWith_36 : decode cX4_aloneWith 36 = .ok (.getfield 121, 3) := by decide +kernel
theorem dX4_aloneWith_39 : decode cX4_aloneWith 39 = .ok (.iload 5, 2) := by decide +kernel
theorem dX4_aloneWith_4 : decode cX4_aloneWith 4 = .ok (.iload_n 1, 1) := by decide +kernel
theorem dX4_aloneWith_41 : decode cX4_aloneWith 41 = .ok (.iaload, 1) := by decide +kernel
theorem dX4_aloneWith_42 : decode cX4_aloneWith 42 = .ok (.iload_n 1, 1) := by decide +kernel
theorem dX4_aloneWith_43 : decode cX4_aloneWith 43 = .ok (.if_icmp .eq 17, 3) := by decide +kernel
theorem dX4_aloneWith_46 : decode cX4_aloneWith 46 = .ok (.aload_n 0, 1) := by decide +kernel
theorem dX4_aloneWith_47 : decode cX4_aloneWith 47 = .ok (.getfield 28, 3) := by decide +kernel
theorem dX4_aloneWith_5 : decode cX4_aloneWith 5 = .ok (.iaload, 1) := by decide +kernel
theorem dX4_aloneWith_50 : decode cX4_aloneWith 50 = .ok (.getfield 124, 3) := by decide +kernel
theorem dX4_aloneWith_53 : decode cX4_aloneWith 53 = .ok (.iload 5, 2) := by decide +kernel
theorem dX4_aloneWith_55 : decode cX4_aloneWith 55 = .ok (.iaload, 1) := by decide +kernel
theorem dX4_aloneWith_56 : decode cX4_aloneWith 56 = .ok (.iload_n 1, 1) := by decide +kernel
theorem dX4_aloneWith_57 : decode cX4_aloneWith 57 = .ok (.if_icmp .ne 25, 3) := by decide +kernel
theorem dX4_aloneWith_6 : decode cX4_aloneWith 6 = .ok (.istore_n 3, 1) := by decide +kernel
theorem dX4_aloneWith_60 : decode cX4_aloneWith 60 = .ok (.iload 4, 2) := by decide +kernel
theorem dX4_aloneWith_62 : decode cX4_aloneWith 62 = .ok (.aload_n 0, 1) := by decide +kernel
theorem dX4_aloneWith_63 : decode cX4_aloneWith 63 = .ok (.getfield 28, 3) := by decide +kernel
theorem dX4_aloneWith_66 : decode cX4_aloneWith 66 = .ok (.getfield 130, 3) := by decide +kernel
theorem dX4_aloneWith_69 : decode cX4_aloneWith 69 = .ok (.iload 5, 2) := by decide +kernel
theorem dX4_aloneWith_7 : decode cX4_aloneWith 7 = .ok (.aload_n 0, 1) := by decide +kernel
theorem dX4_aloneWith_71 : decode cX4_aloneWith 71 = .ok (.iaload, 1) := by decide +kernel
theorem dX4_aloneWith_72 : decode cX4_aloneWith 72 = .ok (.aload_n 0, 1) := by decide +kernel
theorem dX4_aloneWith_73 : decode cX4_aloneWith 73 = .ok (.iload 5, 2) := by decide +kernel
theorem dX4_aloneWith_75 : decode cX4_aloneWith 75 = .ok (.invokevirtual 133, 3) := by decide +kernel
theorem dX4_aloneWith_78 : decode cX4_aloneWith 78 = .ok (.imul, 1) := by decide +kernel
theorem dX4_aloneWith_79 : decode cX4_aloneWith 79 = .ok (.iadd, 1) := by decide +kernel
theorem dX4_aloneWith_8 : decode cX4_aloneWith 8 = .ok (.getfield 9, 3) := by decide +kernel
theorem dX4_aloneWith_80 : decode cX4_aloneWith 80 = .ok (.istore 4, 2) := by decide +kernel
theorem dX4_aloneWith_82 : decode cX4_aloneWith 82 = .ok (.iinc 5 1, 3) := by decide +kernel
theorem dX4_aloneWith_85 : decode cX4_aloneWith 85 = .ok (.goto (-65), 3) := by decide +kernel
theorem dX4_aloneWith_88 : decode cX4_aloneWith 88 = .ok (.iconst 0, 1) := by decide +kernel
theorem dX4_aloneWith_89 : decode cX4_aloneWith 89 = .ok (.istore 5, 2) := by decide +kernel
theorem dX4_aloneWith_91 : decode cX4_aloneWith 91 = .ok (.iload 5, 2) := by decide +kernel
theorem dX4_aloneWith_93 : decode cX4_aloneWith 93 = .ok (.iconst 5, 1) := by decide +kernel
theorem dX4_aloneWith_94 : decode cX4_aloneWith 94 = .ok (.if_icmp .ge 66, 3) := by decide +kernel
theorem dX4_aloneWith_97 : decode cX4_aloneWith 97 = .ok (.aload_n 0, 1) := by decide +kernel
theorem dX4_aloneWith_98 : decode cX4_aloneWith 98 = .ok (.iload_n 1, 1) := by decide +kernel
theorem dX4_aloneWith_99 : decode cX4_aloneWith 99 = .ok (.iload 5, 2) := by decide +kernel
theorem dX4_begin_0 : decode cX4_begin 0 = .ok (.aload_n 0, 1) := by decide +kernel
theorem dX4_begin_1 : decode cX4_begin 1 = .ok (.aload_n 1, 1) := by decide +kernel
theorem dX4_begin_10 : decode cX4_begin 10 = .ok (.invokestatic 33, 3) := by decide +kernel
theorem dX4_begin_13 : decode cX4_begin 13 = .ok (.aload_n 0, 1) := by decide +kernel
theorem dX4_begin_14 : decode cX4_begin 14 = .ok (.getfield 25, 3) := by decide +kernel
theorem dX4_begin_17 : decode cX4_begin 17 = .ok (.ldc 32, 2) := by decide +kernel
theorem dX4_begin_19 : decode cX4_begin 19 = .ok (.invokestatic 33, 3) := by decide +kernel
theorem dX4_begin_2 : decode cX4_begin 2 = .ok (.putfield 28, 3) := by decide +kernel
theorem dX4_begin_22 : decode cX4_begin 22 = .ok (.return_, 1) := by decide +kernel
theorem dX4_begin_5 : decode cX4_begin 5 = .ok (.aload_n 0, 1) := by decide +kernel
theorem dX4_begin_6 : decode cX4_begin 6 = .ok (.getfield 9, 3) := by decide +kernel
theorem dX4_begin_9 : decode cX4_begin 9 = .ok (.iconst 0, 1) := by decide +kernel
theorem dX4_choiceAlone_0 : decode cX4_choiceAlone 0 = .ok (.aload_n 0, 1) := by decide +kernel
theorem dX4_choiceAlone_1 : decode cX4_choiceAlone 1 = .ok (.getfield 28, 3) := by decide +kernel
theorem dX4_choiceAlone_12 : decode cX4_choiceAlone 12 = .ok (.iload_n 1, 1) := by decide +kernel
theorem dX4_choiceAlone_13 : decode cX4_choiceAlone 13 = .ok (.iaload, 1) := by decide +kernel
theorem dX4_choiceAlone_14 : decode cX4_choiceAlone 14 = .ok (.istore_n 3, 1) := by decide +kernel
theorem dX4_choiceAlone_15 : decode cX4_choiceAlone 15 = .ok (.iconst 0, 1) := by decide +kernel
theorem dX4_choiceAlone_16 : decode cX4_choiceAlone 16 = .ok (.istore 4, 2) := by decide +kernel
theorem dX4_choiceAlone_18 : decode cX4_choiceAlone 18 = .ok (.iconst 0, 1) := by decide +kernel
theorem dX4_choiceAlone_19 : decode cX4_choiceAlone 19 = .ok (.istore 5, 2) := by decide +kernel
theorem dX4_choiceAlone_21 : decode cX4_choiceAlone 21 = .ok (.iload 5, 2) := by decide +kernel
theorem dX4_choiceAlone_23 : decode cX4_choiceAlone 23 = .ok (.aload_n 2, 1) := by decide +kernel
theorem dX4_choiceAlone_24 : decode cX4_choiceAlone 24 = .ok (.getfield 179, 3) := by decide +kernel
theorem dX4_choiceAlone_27 : decode cX4_choiceAlone 27 = .ok (.iload_n 1, 1) := by decide +kernel
theorem dX4_choiceAlone_28 : decode cX4_choiceAlone 28 = .ok (.iaload, 1) := by decide +kernel
theorem dX4_choiceAlone_29 : decode cX4_choiceAlone 29 = .ok (.if_icmp .ge 51, 3) := by decide +kernel
theorem dX4_choiceAlone_32 : decode cX4_choiceAlone 32 = .ok (.aload_n 2, 1) := by decide +kernel
theorem dX4_choiceAlone_33 : decode cX4_choiceAlone 33 = .ok (.getfield 182, 3) := by decide +kernel
theorem dX4_choiceAlone_36 : decode cX4_choiceAlone 36 = .ok (.iload_n 1, 1) := by decide +kernel
theorem dX4_choiceAlone_37 : decode cX4_choiceAlone 37 = .ok (.bipush 10, 2) := by decide +kernel
theorem dX4_choiceAlone_39 : decode cX4_choiceAlone 39 = .ok (.imul, 1) := by decide +kernel
theorem dX4_choiceAlone_4 : decode cX4_choiceAlone 4 = .ok (.getfield 39, 3) := by decide +kernel
theorem dX4_choiceAlone_40 : decode cX4_choiceAlone 40 = .ok (.iload 5, 2) := by decide +kernel
theorem dX4_choiceAlone_42 : decode cX4_choiceAlone 42 = .ok (.iadd, 1) := by decide +kernel
theorem dX4_choiceAlone_43 : decode cX4_choiceAlone 43 = .ok (.iaload, 1) := by decide +kernel
theorem dX4_choiceAlone_44 : decode cX4_choiceAlone 44 = .ok (.istore 6, 2) := by decide +kernel
theorem dX4_choiceAlone_46 : decode cX4_choiceAlone 46 = .ok (.aload_n 0, 1) := by decide +kernel
theorem dX4_choiceAlone_47 : decode cX4_choiceAlone 47 = .ok (.iload_n 1, 1) := by decide +kernel
theorem dX4_choiceAlone_48 : decode cX4_choiceAlone 48 = .ok (.iload 6, 2) := by decide +kernel
theorem dX4_choiceAlone_50 : decode cX4_choiceAlone 50 = .ok (.invokevirtual 185, 3) := by decide +kernel
theorem dX4_choiceAlone_53 : decode cX4_choiceAlone 53 = .ok (.istore 7, 2) := by decide +kernel
theorem dX4_choiceAlone_55 : decode cX4_choiceAlone 55 = .ok (.iload 5, 2) := by decide +kernel
theorem dX4_choiceAlone_57 : decode cX4_choiceAlone 57 = .ok (.ifCond .eq 10, 3) := by decide +kernel
theorem dX4_choiceAlone_60 : decode cX4_choiceAlone 60 = .ok (.iload 7, 2) := by decide +kernel
theorem dX4_choiceAlone_62 : decode cX4_choiceAlone 62 = .ok (.iload 4, 2) := by decide +kernel
theorem dX4_choiceAlone_64 : decode cX4_choiceAlone 64 = .ok (.if_icmp .le 10, 3) := by decide +kernel
theorem dX4_choiceAlone_67 : decode cX4_choiceAlone 67 = .ok (.iload 6, 2) := by decide +kernel
theorem dX4_choiceAlone_69 : decode cX4_choiceAlone 69 = .ok (.istore_n 3, 1) := by decide +kernel
theorem dX4_choiceAlone_7 : decode cX4_choiceAlone 7 = .ok (.astore_n 2, 1) := by decide +kernel
theorem dX4_choiceAlone_70 : decode cX4_choiceAlone 70 = .ok (.iload 7, 2) := by decide +kernel
theorem dX4_choiceAlone_72 : decode cX4_choiceAlone 72 = .ok (.istore 4, 2) := by decide +kernel
theorem dX4_choiceAlone_74 : decode cX4_choiceAlone 74 = .ok (.iinc 5 1, 3) := by decide +kernel
theorem dX4_choiceAlone_77 : decode cX4_choiceAlone 77 = .ok (.goto (-56), 3) := by decide +kernel
theorem dX4_choiceAlone_8 : decode cX4_choiceAlone 8 = .ok (.aload_n 0, 1) := by decide +kernel
theorem dX4_choiceAlone_80 : decode cX4_choiceAlone 80 = .ok (.iload_n 3, 1) := by decide +kernel
theorem dX4_choiceAlone_81 : decode cX4_choiceAlone 81 = .ok (.ireturn, 1) := by decide +kernel
theorem dX4_choiceAlone_9 : decode cX4_choiceAlone 9 = .ok (.getfield 9, 3) := by decide +kernel
theorem dX4_examine_0 : decode cX4_examine 0 = .ok (.aload_n 0, 1) := by decide +kernel
theorem dX4_examine_1 : decode cX4_examine 1 = .ok (.iconst 0, 1) := by decide +kernel
theorem dX4_examine_10 : decode cX4_examine 10 = .ok (.aload_n 0, 1) := by decide +kernel
theorem dX4_examine_11 : decode cX4_examine 11 = .ok (.iconst (-1), 1) := by decide +kernel
theorem dX4_examine_12 : decode cX4_examine 12 = .ok (.putfield 22, 3) := by decide +kernel
theorem dX4_examine_15 : decode cX4_examine 15 = .ok (.aload_n 0, 1) := by decide +kernel
theorem dX4_examine_16 : decode cX4_examine 16 = .ok (.invokevirtual 78, 3) := by decide +kernel
theorem dX4_examine_19 : decode cX4_examine 19 = .ok (.aload_n 0, 1) := by decide +kernel
theorem dX4_examine_2 : decode cX4_examine 2 = .ok (.putfield 15, 3) := by decide +kernel
theorem dX4_examine_20 : decode cX4_examine 20 = .ok (.getfield 15, 3) := by decide +kernel
theorem dX4_examine_23 : decode cX4_examine 23 = .ok (.ifCond .ne 7, 3) := by decide +kernel
theorem dX4_examine_26 : decode cX4_examine 26 = .ok (.aload_n 0, 1) := by decide +kernel
theorem dX4_examine_27 : decode cX4_examine 27 = .ok (.invokevirtual 81, 3) := by decide +kernel
theorem dX4_examine_30 : decode cX4_examine 30 = .ok (.aload_n 0, 1) := by decide +kernel
theorem dX4_examine_31 : decode cX4_examine 31 = .ok (.getfield 15, 3) := by decide +kernel
theorem dX4_examine_34 : decode cX4_examine 34 = .ok (.ifCond .ne 7, 3) := by decide +kernel
theorem dX4_examine_37 : decode cX4_examine 37 = .ok (.aload_n 0, 1) := by decide +kernel
theorem dX4_examine_38 : decode cX4_examine 38 = .ok (.invokevirtual 84, 3) := by decide +kernel
theorem dX4_examine_41 : decode cX4_examine 41 = .ok (.aload_n 0, 1) := by decide +kernel
theorem dX4_examine_42 : decode cX4_examine 42 = .ok (.getfield 15, 3) := by decide +kernel
theorem dX4_examine_45 : decode cX4_examine 45 = .ok (.ifCond .ne 7, 3) := by decide +kernel
theorem dX4_examine_48 : decode cX4_examine 48 = .ok (.aload_n 0, 1) := by decide +kernel
theorem dX4_examine_49 : decode cX4_examine 49 = .ok (.invokevirtual 87, 3) := by decide +kernel
theorem dX4_examine_5 : decode cX4_examine 5 = .ok (.aload_n 0, 1) := by decide +kernel
theorem dX4_examine_52 : decode cX4_examine 52 = .ok (.return_, 1) := by decide +kernel
theorem dX4_examine_6 : decode cX4_examine 6 = .ok (.iconst (-1), 1) := by decide +kernel
theorem dX4_examine_7 : decode cX4_examine 7 = .ok (.putfield 19, 3) := by decide +kernel
theorem dX4_findForbiddenDay_0 : decode cX4_findForbiddenDay 0 = .ok (.iconst 0, 1) := by decide +kernel
theorem dX4_findForbiddenDay_1 : decode cX4_findForbiddenDay 1 = .ok (.istore_n 1, 1) := by decide +kernel
theorem dX4_findForbiddenDay_10 : decode cX4_findForbiddenDay 10 = .ok (.getfield 45, 3) := by decide +kernel
theorem dX4_findForbiddenDay_13 : decode cX4_findForbiddenDay 13 = .ok (.if_icmp .ge 71, 3) := by decide +kernel
theorem dX4_findForbiddenDay_16 : decode cX4_findForbiddenDay 16 = .ok (.aload_n 0, 1) := by decide +kernel
theorem dX4_findForbiddenDay_17 : decode cX4_findForbiddenDay 17 = .ok (.getfield 9, 3) := by decide +kernel
theorem dX4_findForbiddenDay_2 : decode cX4_findForbiddenDay 2 = .ok (.iload_n 1, 1) := by decide +kernel
theorem dX4_findForbiddenDay_20 : decode cX4_findForbiddenDay 20 = .ok (.iload_n 1, 1) := by decide +kernel
theorem dX4_findForbiddenDay_21 : decode cX4_findForbiddenDay 21 = .ok (.iaload, 1) := by decide +kernel
theorem dX4_findForbiddenDay_22 : decode cX4_findForbiddenDay 22 = .ok (.aload_n 0, 1) := by decide +kernel
theorem dX4_findForbiddenDay_23 : decode cX4_findForbiddenDay 23 = .ok (.getfield 28, 3) := by decide +kernel
theorem dX4_findForbiddenDay_26 : decode cX4_findForbiddenDay 26 = .ok (.getfield 39, 3) := by decide +kernel
theorem dX4_findForbiddenDay_29 : decode cX4_findForbiddenDay 29 = .ok (.getfield 90, 3) := by decide +kernel
theorem dX4_findForbiddenDay_3 : decode cX4_findForbiddenDay 3 = .ok (.aload_n 0, 1) := by decide +kernel
theorem dX4_findForbiddenDay_32 : decode cX4_findForbiddenDay 32 = .ok (.iload_n 1, 1) := by decide +kernel
theorem dX4_findForbiddenDay_33 : decode cX4_findForbiddenDay 33 = .ok (.iaload, 1) := by decide +kernel
theorem dX4_findForbiddenDay_34 : decode cX4_findForbiddenDay 34 = .ok (.iand, 1) := by decide +kernel
theorem dX4_findForbiddenDay_35 : decode cX4_findForbiddenDay 35 = .ok (.istore_n 2, 1) := by decide +kernel
theorem dX4_findForbiddenDay_36 : decode cX4_findForbiddenDay 36 = .ok (.iconst 0, 1) := by decide +kernel
theorem dX4_findForbiddenDay_37 : decode cX4_findForbiddenDay 37 = .ok (.istore_n 3, 1) := by decide +kernel
theorem dX4_findForbiddenDay_38 : decode cX4_findForbiddenDay 38 = .ok (.iload_n 3, 1) := by decide +kernel
theorem dX4_findForbiddenDay_39 : decode cX4_findForbiddenDay 39 = .ok (.iconst 5, 1) := by decide +kernel
theorem dX4_findForbiddenDay_4 : decode cX4_findForbiddenDay 4 = .ok (.getfield 28, 3) := by decide +kernel
theorem dX4_findForbiddenDay_40 : decode cX4_findForbiddenDay 40 = .ok (.if_icmp .ge 38, 3) := by decide +kernel
theorem dX4_findForbiddenDay_43 : decode cX4_findForbiddenDay 43 = .ok (.iload_n 2, 1) := by decide +kernel
theorem dX4_findForbiddenDay_44 : decode cX4_findForbiddenDay 44 = .ok (.ifCond .eq 34, 3) := by decide +kernel
theorem dX4_findForbiddenDay_47 : decode cX4_findForbiddenDay 47 = .ok (.iload_n 2, 1) := by decide +kernel
theorem dX4_findForbiddenDay_48 : decode cX4_findForbiddenDay 48 = .ok (.iload_n 3, 1) := by decide +kernel
theorem dX4_findForbiddenDay_49 : decode cX4_findForbiddenDay 49 = .ok (.ishr, 1) := by decide +kernel
theorem dX4_findForbiddenDay_50 : decode cX4_findForbiddenDay 50 = .ok (.iconst 1, 1) := by decide +kernel
theorem dX4_findForbiddenDay_51 : decode cX4_findForbiddenDay 51 = .ok (.iand, 1) := by decide +kernel
theorem dX4_findForbiddenDay_52 : decode cX4_findForbiddenDay 52 = .ok (.iconst 1, 1) := by decide +kernel
theorem dX4_findForbiddenDay_53 : decode cX4_findForbiddenDay 53 = .ok (.if_icmp .ne 19, 3) := by decide +kernel
theorem dX4_findForbiddenDay_56 : decode cX4_findForbiddenDay 56 = .ok (.aload_n 0, 1) := by decide +kernel
theorem dX4_findForbiddenDay_57 : decode cX4_findForbiddenDay 57 = .ok (.iconst 1, 1) := by decide +kernel
theorem dX4_findForbiddenDay_58 : decode cX4_findForbiddenDay 58 = .ok (.putfield 15, 3) := by decide +kernel
theorem dX4_findForbiddenDay_61 : decode cX4_findForbiddenDay 61 = .ok (.aload_n 0, 1) := by decide +kernel
theorem dX4_findForbiddenDay_62 : decode cX4_findForbiddenDay 62 = .ok (.iload_n 1, 1) := by decide +kernel
theorem dX4_findForbiddenDay_63 : decode cX4_findForbiddenDay 63 = .ok (.putfield 19, 3) := by decide +kernel
theorem dX4_findForbiddenDay_66 : decode cX4_findForbiddenDay 66 = .ok (.aload_n 0, 1) := by decide +kernel
theorem dX4_findForbiddenDay_67 : decode cX4_findForbiddenDay 67 = .ok (.iload_n 3, 1) := by decide +kernel
theorem dX4_findForbiddenDay_68 : decode cX4_findForbiddenDay 68 = .ok (.putfield 22, 3) := by decide +kernel
theorem dX4_findForbiddenDay_7 : decode cX4_findForbiddenDay 7 = .ok (.getfield 39, 3) := by decide +kernel
theorem dX4_findForbiddenDay_71 : decode cX4_findForbiddenDay 71 = .ok (.return_, 1) := by decide +kernel
theorem dX4_findForbiddenDay_72 : decode cX4_findForbiddenDay 72 = .ok (.iinc 3 1, 3) := by decide +kernel
theorem dX4_findForbiddenDay_75 : decode cX4_findForbiddenDay 75 = .ok (.goto (-37), 3) := by decide +kernel
theorem dX4_findForbiddenDay_78 : decode cX4_findForbiddenDay 78 = .ok (.iinc 1 1, 3) := by decide +kernel
theorem dX4_findForbiddenDay_81 : decode cX4_findForbiddenDay 81 = .ok (.goto (-79), 3) := by decide +kernel
theorem dX4_findForbiddenDay_84 : decode cX4_findForbiddenDay 84 = .ok (.return_, 1) := by decide +kernel
theorem dX4_findOtherNumber_0 : decode cX4_findOtherNumber 0 = .ok (.iconst 0, 1) := by decide +kernel
theorem dX4_findOtherNumber_1 : decode cX4_findOtherNumber 1 = .ok (.istore_n 1, 1) := by decide +kernel
theorem dX4_findOtherNumber_10 : decode cX4_findOtherNumber 10 = .ok (.getfield 45, 3) := by decide +kernel
theorem dX4_findOtherNumber_13 : decode cX4_findOtherNumber 13 = .ok (.if_icmp .ge 44, 3) := by decide +kernel
theorem dX4_findOtherNumber_16 : decode cX4_findOtherNumber 16 = .ok (.aload_n 0, 1) := by decide +kernel
theorem dX4_findOtherNumber_17 : decode cX4_findOtherNumber 17 = .ok (.getfield 9, 3) := by decide +kernel
theorem dX4_findOtherNumber_2 : decode cX4_findOtherNumber 2 = .ok (.iload_n 1, 1) := by decide +kernel
theorem dX4_findOtherNumber_20 : decode cX4_findOtherNumber 20 = .ok (.iload_n 1, 1) := by decide +kernel
theorem dX4_findOtherNumber_21 : decode cX4_findOtherNumber 21 = .ok (.iaload, 1) := by decide +kernel
theorem dX4_findOtherNumber_22 : decode cX4_findOtherNumber 22 = .ok (.invokestatic 93, 3) := by decide +kernel
theorem dX4_findOtherNumber_25 : decode cX4_findOtherNumber 25 = .ok (.aload_n 0, 1) := by decide +kernel
theorem dX4_findOtherNumber_26 : decode cX4_findOtherNumber 26 = .ok (.getfield 28, 3) := by decide +kernel
theorem dX4_findOtherNumber_29 : decode cX4_findOtherNumber 29 = .ok (.getfield 39, 3) := by decide +kernel
theorem dX4_findOtherNumber_3 : decode cX4_findOtherNumber 3 = .ok (.aload_n 0, 1) := by decide +kernel
theorem dX4_findOtherNumber_32 : decode cX4_findOtherNumber 32 = .ok (.getfield 98, 3) := by decide +kernel
theorem dX4_findOtherNumber_35 : decode cX4_findOtherNumber 35 = .ok (.iload_n 1, 1) := by decide +kernel
theorem dX4_findOtherNumber_36 : decode cX4_findOtherNumber 36 = .ok (.iaload, 1) := by decide +kernel
theorem dX4_findOtherNumber_37 : decode cX4_findOtherNumber 37 = .ok (.if_icmp .eq 14, 3) := by decide +kernel
theorem dX4_findOtherNumber_4 : decode cX4_findOtherNumber 4 = .ok (.getfield 28, 3) := by decide +kernel
theorem dX4_findOtherNumber_40 : decode cX4_findOtherNumber 40 = .ok (.aload_n 0, 1) := by decide +kernel
theorem dX4_findOtherNumber_41 : decode cX4_findOtherNumber 41 = .ok (.iconst 2, 1) := by decide +kernel
theorem dX4_findOtherNumber_42 : decode cX4_findOtherNumber 42 = .ok (.putfield 15, 3) := by decide +kernel
theorem dX4_findOtherNumber_45 : decode cX4_findOtherNumber 45 = .ok (.aload_n 0, 1) := by decide +kernel
theorem dX4_findOtherNumber_46 : decode cX4_findOtherNumber 46 = .ok (.iload_n 1, 1) := by decide +kernel
theorem dX4_findOtherNumber_47 : decode cX4_findOtherNumber 47 = .ok (.putfield 19, 3) := by decide +kernel
theorem dX4_findOtherNumber_50 : decode cX4_findOtherNumber 50 = .ok (.return_, 1) := by decide +kernel
theorem dX4_findOtherNumber_51 : decode cX4_findOtherNumber 51 = .ok (.iinc 1 1, 3) := by decide +kernel
theorem dX4_findOtherNumber_54 : decode cX4_findOtherNumber 54 = .ok (.goto (-52), 3) := by decide +kernel
theorem dX4_findOtherNumber_57 : decode cX4_findOtherNumber 57 = .ok (.return_, 1) := by decide +kernel
theorem dX4_findOtherNumber_7 : decode cX4_findOtherNumber 7 = .ok (.getfield 39, 3) := by decide +kernel
theorem dX4_findStanding_0 : decode cX4_findStanding 0 = .ok (.iconst 0, 1) := by decide +kernel
theorem dX4_findStanding_1 : decode cX4_findStanding 1 = .ok (.istore_n 1, 1) := by decide +kernel
theorem dX4_findStanding_12 : decode cX4_findStanding 12 = .ok (.ifCond .le 14, 3) := by decide +kernel
theorem dX4_findStanding_15 : decode cX4_findStanding 15 = .ok (.aload_n 0, 1) := by decide +kernel
theorem dX4_findStanding_16 : decode cX4_findStanding 16 = .ok (.iconst 3, 1) := by decide +kernel
theorem dX4_findStanding_17 : decode cX4_findStanding 17 = .ok (.putfield 15, 3) := by decide +kernel
theorem dX4_findStanding_2 : decode cX4_findStanding 2 = .ok (.iload_n 1, 1) := by decide +kernel
theorem dX4_findStanding_20 : decode cX4_findStanding 20 = .ok (.aload_n 0, 1) := by decide +kernel
theorem dX4_findStanding_21 : decode cX4_findStanding 21 = .ok (.iload_n 1, 1) := by decide +kernel
theorem dX4_findStanding_22 : decode cX4_findStanding 22 = .ok (.putfield 19, 3) := by decide +kernel
theorem dX4_findStanding_25 : decode cX4_findStanding 25 = .ok (.return_, 1) := by decide +kernel
theorem dX4_findStanding_26 : decode cX4_findStanding 26 = .ok (.iinc 1 1, 3) := by decide +kernel
theorem dX4_findStanding_29 : decode cX4_findStanding 29 = .ok (.goto (-27), 3) := by decide +kernel
theorem dX4_findStanding_3 : decode cX4_findStanding 3 = .ok (.iconst 5, 1) := by decide +kernel
theorem dX4_findStanding_32 : decode cX4_findStanding 32 = .ok (.return_, 1) := by decide +kernel
theorem dX4_findStanding_4 : decode cX4_findStanding 4 = .ok (.if_icmp .ge 28, 3) := by decide +kernel
theorem dX4_findStanding_7 : decode cX4_findStanding 7 = .ok (.aload_n 0, 1) := by decide +kernel
theorem dX4_findStanding_8 : decode cX4_findStanding 8 = .ok (.iload_n 1, 1) := by decide +kernel
theorem dX4_findStanding_9 : decode cX4_findStanding 9 = .ok (.invokevirtual 101, 3) := by decide +kernel
theorem dX4_findTeamApart_0 : decode cX4_findTeamApart 0 = .ok (.iconst 0, 1) := by decide +kernel
theorem dX4_findTeamApart_1 : decode cX4_findTeamApart 1 = .ok (.istore_n 1, 1) := by decide +kernel
theorem dX4_findTeamApart_10 : decode cX4_findTeamApart 10 = .ok (.if_icmp .ge 57, 3) := by decide +kernel
theorem dX4_findTeamApart_13 : decode cX4_findTeamApart 13 = .ok (.aload_n 0, 1) := by decide +kernel
theorem dX4_findTeamApart_14 : decode cX4_findTeamApart 14 = .ok (.getfield 28, 3) := by decide +kernel
theorem dX4_findTeamApart_17 : decode cX4_findTeamApart 17 = .ok (.getfield 107, 3) := by decide +kernel
theorem dX4_findTeamApart_2 : decode cX4_findTeamApart 2 = .ok (.iload_n 1, 1) := by decide +kernel
theorem dX4_findTeamApart_20 : decode cX4_findTeamApart 20 = .ok (.iload_n 1, 1) := by decide +kernel
theorem dX4_findTeamApart_21 : decode cX4_findTeamApart 21 = .ok (.baload, 1) := by decide +kernel
theorem dX4_findTeamApart_22 : decode cX4_findTeamApart 22 = .ok (.ifCond .eq 39, 3) := by decide +kernel
theorem dX4_findTeamApart_25 : decode cX4_findTeamApart 25 = .ok (.aload_n 0, 1) := by decide +kernel
theorem dX4_findTeamApart_26 : decode cX4_findTeamApart 26 = .ok (.getfield 28, 3) := by decide +kernel
theorem dX4_findTeamApart_29 : decode cX4_findTeamApart 29 = .ok (.getfield 111, 3) := by decide +kernel
theorem dX4_findTeamApart_3 : decode cX4_findTeamApart 3 = .ok (.aload_n 0, 1) := by decide +kernel
theorem dX4_findTeamApart_32 : decode cX4_findTeamApart 32 = .ok (.iload_n 1, 1) := by decide +kernel
theorem dX4_findTeamApart_33 : decode cX4_findTeamApart 33 = .ok (.iaload, 1) := by decide +kernel
theorem dX4_findTeamApart_34 : decode cX4_findTeamApart 34 = .ok (.iconst (-1), 1) := by decide +kernel
theorem dX4_findTeamApart_35 : decode cX4_findTeamApart 35 = .ok (.if_icmp .eq 26, 3) := by decide +kernel
theorem dX4_findTeamApart_38 : decode cX4_findTeamApart 38 = .ok (.aload_n 0, 1) := by decide +kernel
theorem dX4_findTeamApart_39 : decode cX4_findTeamApart 39 = .ok (.aload_n 0, 1) := by decide +kernel
theorem dX4_findTeamApart_4 : decode cX4_findTeamApart 4 = .ok (.getfield 28, 3) := by decide +kernel
theorem dX4_findTeamApart_40 : decode cX4_findTeamApart 40 = .ok (.getfield 9, 3) := by decide +kernel
theorem dX4_findTeamApart_43 : decode cX4_findTeamApart 43 = .ok (.iload_n 1, 1) := by decide +kernel
theorem dX4_findTeamApart_44 : decode cX4_findTeamApart 44 = .ok (.invokevirtual 114, 3) := by decide +kernel
theorem dX4_findTeamApart_47 : decode cX4_findTeamApart 47 = .ok (.ifCond .ne 14, 3) := by decide +kernel
theorem dX4_findTeamApart_50 : decode cX4_findTeamApart 50 = .ok (.aload_n 0, 1) := by decide +kernel
theorem dX4_findTeamApart_51 : decode cX4_findTeamApart 51 = .ok (.iconst 4, 1) := by decide +kernel
theorem dX4_findTeamApart_52 : decode cX4_findTeamApart 52 = .ok (.putfield 15, 3) := by decide +kernel
theorem dX4_findTeamApart_55 : decode cX4_findTeamApart 55 = .ok (.aload_n 0, 1) := by decide +kernel
theorem dX4_findTeamApart_56 : decode cX4_findTeamApart 56 = .ok (.iload_n 1, 1) := by decide +kernel
theorem dX4_findTeamApart_57 : decode cX4_findTeamApart 57 = .ok (.putfield 19, 3) := by decide +kernel
theorem dX4_findTeamApart_60 : decode cX4_findTeamApart 60 = .ok (.return_, 1) := by decide +kernel
theorem dX4_findTeamApart_61 : decode cX4_findTeamApart 61 = .ok (.iinc 1 1, 3) := by decide +kernel
theorem dX4_findTeamApart_64 : decode cX4_findTeamApart 64 = .ok (.goto (-62), 3) := by decide +kernel
theorem dX4_findTeamApart_67 : decode cX4_findTeamApart 67 = .ok (.return_, 1) := by decide +kernel
theorem dX4_findTeamApart_7 : decode cX4_findTeamApart 7 = .ok (.getfield 104, 3) := by decide +kernel
theorem dX4_goRound_0 : decode cX4_goRound 0 = .ok (.iconst 0, 1) := by decide +kernel
theorem dX4_goRound_1 : decode cX4_goRound 1 = .ok (.istore_n 1, 1) := by decide +kernel
theorem dX4_goRound_12 : decode cX4_goRound 12 = .ok (.getfield 45, 3) := by decide +kernel
theorem dX4_goRound_15 : decode cX4_goRound 15 = .ok (.if_icmp .ge 34, 3) := by decide +kernel
theorem dX4_goRound_18 : decode cX4_goRound 18 = .ok (.aload_n 0, 1) := by decide +kernel
theorem dX4_goRound_19 : decode cX4_goRound 19 = .ok (.iload_n 2, 1) := by decide +kernel
theorem dX4_goRound_2 : decode cX4_goRound 2 = .ok (.iconst 0, 1) := by decide +kernel
theorem dX4_goRound_20 : decode cX4_goRound 20 = .ok (.invokevirtual 176, 3) := by decide +kernel
theorem dX4_goRound_23 : decode cX4_goRound 23 = .ok (.istore_n 3, 1) := by decide +kernel
theorem dX4_goRound_24 : decode cX4_goRound 24 = .ok (.iload_n 3, 1) := by decide +kernel
theorem dX4_goRound_25 : decode cX4_goRound 25 = .ok (.aload_n 0, 1) := by decide +kernel
theorem dX4_goRound_26 : decode cX4_goRound 26 = .ok (.getfield 9, 3) := by decide +kernel
theorem dX4_goRound_29 : decode cX4_goRound 29 = .ok (.iload_n 2, 1) := by decide +kernel
theorem dX4_goRound_3 : decode cX4_goRound 3 = .ok (.istore_n 2, 1) := by decide +kernel
theorem dX4_goRound_30 : decode cX4_goRound 30 = .ok (.iaload, 1) := by decide +kernel
theorem dX4_goRound_31 : decode cX4_goRound 31 = .ok (.if_icmp .eq 12, 3) := by decide +kernel
theorem dX4_goRound_34 : decode cX4_goRound 34 = .ok (.aload_n 0, 1) := by decide +kernel
theorem dX4_goRound_35 : decode cX4_goRound 35 = .ok (.getfield 9, 3) := by decide +kernel
theorem dX4_goRound_38 : decode cX4_goRound 38 = .ok (.iload_n 2, 1) := by decide +kernel
theorem dX4_goRound_39 : decode cX4_goRound 39 = .ok (.iload_n 3, 1) := by decide +kernel
theorem dX4_goRound_4 : decode cX4_goRound 4 = .ok (.iload_n 2, 1) := by decide +kernel
theorem dX4_goRound_40 : decode cX4_goRound 40 = .ok (.iastore, 1) := by decide +kernel
theorem dX4_goRound_41 : decode cX4_goRound 41 = .ok (.iconst 1, 1) := by decide +kernel
theorem dX4_goRound_42 : decode cX4_goRound 42 = .ok (.istore_n 1, 1) := by decide +kernel
theorem dX4_goRound_43 : decode cX4_goRound 43 = .ok (.iinc 2 1, 3) := by decide +kernel
theorem dX4_goRound_46 : decode cX4_goRound 46 = .ok (.goto (-42), 3) := by decide +kernel
theorem dX4_goRound_49 : decode cX4_goRound 49 = .ok (.iload_n 1, 1) := by decide +kernel
theorem dX4_goRound_5 : decode cX4_goRound 5 = .ok (.aload_n 0, 1) := by decide +kernel
theorem dX4_goRound_50 : decode cX4_goRound 50 = .ok (.ireturn, 1) := by decide +kernel
theorem dX4_goRound_6 : decode cX4_goRound 6 = .ok (.getfield 28, 3) := by decide +kernel
theorem dX4_goRound_9 : decode cX4_goRound 9 = .ok (.getfield 39, 3) := by decide +kernel
theorem dX4_holds_0 : decode cX4_holds 0 = .ok (.aload_n 0, 1) := by decide +kernel
theorem dX4_holds_1 : decode cX4_holds 1 = .ok (.invokevirtual 75, 3) := by decide +kernel
theorem dX4_holds_11 : decode cX4_holds 11 = .ok (.iconst 1, 1) := by decide +kernel
theorem dX4_holds_12 : decode cX4_holds 12 = .ok (.goto 4, 3) := by decide +kernel
theorem dX4_holds_15 : decode cX4_holds 15 = .ok (.iconst 0, 1) := by decide +kernel
theorem dX4_holds_16 : decode cX4_holds 16 = .ok (.ireturn, 1) := by decide +kernel
theorem dX4_holds_4 : decode cX4_holds 4 = .ok (.aload_n 0, 1) := by decide +kernel
theorem dX4_holds_5 : decode cX4_holds 5 = .ok (.getfield 15, 3) := by decide +kernel
theorem dX4_holds_8 : decode cX4_holds 8 = .ok (.ifCond .ne 7, 3) := by decide +kernel
theorem dX4_roundsTillRest_0 : decode cX4_roundsTillRest 0 = .ok (.iconst 1, 1) := by decide +kernel
theorem dX4_roundsTillRest_1 : decode cX4_roundsTillRest 1 = .ok (.istore_n 2, 1) := by decide +kernel
theorem dX4_roundsTillRest_11 : decode cX4_roundsTillRest 11 = .ok (.ifCond .ne 5, 3) := by decide +kernel
theorem dX4_roundsTillRest_14 : decode cX4_roundsTillRest 14 = .ok (.iload_n 2, 1) := by decide +kernel
theorem dX4_roundsTillRest_15 : decode cX4_roundsTillRest 15 = .ok (.ireturn, 1) := by decide +kernel
theorem dX4_roundsTillRest_16 : decode cX4_roundsTillRest 16 = .ok (.iinc 2 1, 3) := by decide +kernel
theorem dX4_roundsTillRest_19 : decode cX4_roundsTillRest 19 = .ok (.goto (-17), 3) := by decide +kernel
theorem dX4_roundsTillRest_2 : decode cX4_roundsTillRest 2 = .ok (.iload_n 2, 1) := by decide +kernel
theorem dX4_roundsTillRest_22 : decode cX4_roundsTillRest 22 = .ok (.bipush (-2), 2) := by decide +kernel
theorem dX4_roundsTillRest_24 : decode cX4_roundsTillRest 24 = .ok (.ireturn, 1) := by decide +kernel
theorem dX4_roundsTillRest_3 : decode cX4_roundsTillRest 3 = .ok (.iload_n 1, 1) := by decide +kernel
theorem dX4_roundsTillRest_4 : decode cX4_roundsTillRest 4 = .ok (.if_icmp .gt 18, 3) := by decide +kernel
theorem dX4_roundsTillRest_7 : decode cX4_roundsTillRest 7 = .ok (.aload_n 0, 1) := by decide +kernel
theorem dX4_roundsTillRest_8 : decode cX4_roundsTillRest 8 = .ok (.invokevirtual 172, 3) := by decide +kernel
theorem dX4_ruledSum_0 : decode cX4_ruledSum 0 = .ok (.aload_n 0, 1) := by decide +kernel
theorem dX4_ruledSum_1 : decode cX4_ruledSum 1 = .ok (.getfield 28, 3) := by decide +kernel
theorem dX4_ruledSum_10 : decode cX4_ruledSum 10 = .ok (.ifCond .ne 5, 3) := by decide +kernel
theorem dX4_ruledSum_13 : decode cX4_ruledSum 13 = .ok (.iconst 0, 1) := by decide +kernel
theorem dX4_ruledSum_14 : decode cX4_ruledSum 14 = .ok (.ireturn, 1) := by decide +kernel
theorem dX4_ruledSum_15 : decode cX4_ruledSum 15 = .ok (.iload_n 1, 1) := by decide +kernel
theorem dX4_ruledSum_16 : decode cX4_ruledSum 16 = .ok (.iconst 5, 1) := by decide +kernel
theorem dX4_ruledSum_17 : decode cX4_ruledSum 17 = .ok (.imul, 1) := by decide +kernel
theorem dX4_ruledSum_18 : decode cX4_ruledSum 18 = .ok (.iload_n 2, 1) := by decide +kernel
theorem dX4_ruledSum_19 : decode cX4_ruledSum 19 = .ok (.iadd, 1) := by decide +kernel
theorem dX4_ruledSum_20 : decode cX4_ruledSum 20 = .ok (.bipush 13, 2) := by decide +kernel
theorem dX4_ruledSum_22 : decode cX4_ruledSum 22 = .ok (.imul, 1) := by decide +kernel
theorem dX4_ruledSum_23 : decode cX4_ruledSum 23 = .ok (.iload_n 3, 1) := by decide +kernel
theorem dX4_ruledSum_24 : decode cX4_ruledSum 24 = .ok (.iadd, 1) := by decide +kernel
theorem dX4_ruledSum_25 : decode cX4_ruledSum 25 = .ok (.istore 4, 2) := by decide +kernel
theorem dX4_ruledSum_27 : decode cX4_ruledSum 27 = .ok (.aload_n 0, 1) := by decide +kernel
theorem dX4_ruledSum_28 : decode cX4_ruledSum 28 = .ok (.getfield 25, 3) := by decide +kernel
theorem dX4_ruledSum_31 : decode cX4_ruledSum 31 = .ok (.iload 4, 2) := by decide +kernel
theorem dX4_ruledSum_33 : decode cX4_ruledSum 33 = .ok (.iaload, 1) := by decide +kernel
theorem dX4_ruledSum_34 : decode cX4_ruledSum 34 = .ok (.ldc 32, 2) := by decide +kernel
theorem dX4_ruledSum_36 : decode cX4_ruledSum 36 = .ok (.if_icmp .ne 45, 3) := by decide +kernel
theorem dX4_ruledSum_39 : decode cX4_ruledSum 39 = .ok (.aload_n 0, 1) := by decide +kernel
theorem dX4_ruledSum_4 : decode cX4_ruledSum 4 = .ok (.getfield 154, 3) := by decide +kernel
theorem dX4_ruledSum_40 : decode cX4_ruledSum 40 = .ok (.getfield 25, 3) := by decide +kernel
theorem dX4_ruledSum_43 : decode cX4_ruledSum 43 = .ok (.iload 4, 2) := by decide +kernel
theorem dX4_ruledSum_45 : decode cX4_ruledSum 45 = .ok (.aload_n 0, 1) := by decide +kernel
theorem dX4_ruledSum_46 : decode cX4_ruledSum 46 = .ok (.getfield 28, 3) := by decide +kernel
theorem dX4_ruledSum_49 : decode cX4_ruledSum 49 = .ok (.getfield 154, 3) := by decide +kernel
theorem dX4_ruledSum_52 : decode cX4_ruledSum 52 = .ok (.iload_n 2, 1) := by decide +kernel
theorem dX4_ruledSum_53 : decode cX4_ruledSum 53 = .ok (.iload_n 1, 1) := by decide +kernel
theorem dX4_ruledSum_54 : decode cX4_ruledSum 54 = .ok (.aload_n 0, 1) := by decide +kernel
theorem dX4_ruledSum_55 : decode cX4_ruledSum 55 = .ok (.getfield 28, 3) := by decide +kernel
theorem dX4_ruledSum_58 : decode cX4_ruledSum 58 = .ok (.getfield 39, 3) := by decide +kernel
theorem dX4_ruledSum_61 : decode cX4_ruledSum 61 = .ok (.getfield 118, 3) := by decide +kernel
theorem dX4_ruledSum_64 : decode cX4_ruledSum 64 = .ok (.iload_n 1, 1) := by decide +kernel
theorem dX4_ruledSum_65 : decode cX4_ruledSum 65 = .ok (.iaload, 1) := by decide +kernel
theorem dX4_ruledSum_66 : decode cX4_ruledSum 66 = .ok (.iload_n 3, 1) := by decide +kernel
theorem dX4_ruledSum_67 : decode cX4_ruledSum 67 = .ok (.aload_n 0, 1) := by decide +kernel
theorem dX4_ruledSum_68 : decode cX4_ruledSum 68 = .ok (.getfield 28, 3) := by decide +kernel
theorem dX4_ruledSum_7 : decode cX4_ruledSum 7 = .ok (.getfield 158, 3) := by decide +kernel
theorem dX4_ruledSum_71 : decode cX4_ruledSum 71 = .ok (.getfield 57, 3) := by decide +kernel
theorem dX4_ruledSum_74 : decode cX4_ruledSum 74 = .ok (.getfield 61, 3) := by decide +kernel
theorem dX4_ruledSum_77 : decode cX4_ruledSum 77 = .ok (.invokevirtual 161, 3) := by decide +kernel
theorem dX4_ruledSum_80 : decode cX4_ruledSum 80 = .ok (.iastore, 1) := by decide +kernel
theorem dX4_ruledSum_81 : decode cX4_ruledSum 81 = .ok (.aload_n 0, 1) := by decide +kernel
theorem dX4_ruledSum_82 : decode cX4_ruledSum 82 = .ok (.getfield 25, 3) := by decide +kernel
theorem dX4_ruledSum_85 : decode cX4_ruledSum 85 = .ok (.iload 4, 2) := by decide +kernel
theorem dX4_ruledSum_87 : decode cX4_ruledSum 87 = .ok (.iaload, 1) := by decide +kernel
theorem dX4_ruledSum_88 : decode cX4_ruledSum 88 = .ok (.ireturn, 1) := by decide +kernel
theorem dX4_total_0 : decode cX4_total 0 = .ok (.aload_n 0, 1) := by decide +kernel
theorem dX4_total_1 : decode cX4_total 1 = .ok (.invokevirtual 136, 3) := by decide +kernel
theorem dX4_total_12 : decode cX4_total 12 = .ok (.aload_n 0, 1) := by decide +kernel
theorem dX4_total_13 : decode cX4_total 13 = .ok (.iload_n 2, 1) := by decide +kernel
theorem dX4_total_14 : decode cX4_total 14 = .ok (.invokevirtual 140, 3) := by decide +kernel
theorem dX4_total_17 : decode cX4_total 17 = .ok (.istore_n 3, 1) := by decide +kernel
theorem dX4_total_18 : decode cX4_total 18 = .ok (.iconst 0, 1) := by decide +kernel
theorem dX4_total_19 : decode cX4_total 19 = .ok (.istore 4, 2) := by decide +kernel
theorem dX4_total_21 : decode cX4_total 21 = .ok (.iload 4, 2) := by decide +kernel
theorem dX4_total_23 : decode cX4_total 23 = .ok (.aload_n 0, 1) := by decide +kernel
theorem dX4_total_24 : decode cX4_total 24 = .ok (.getfield 28, 3) := by decide +kernel
theorem dX4_total_27 : decode cX4_total 27 = .ok (.getfield 39, 3) := by decide +kernel
theorem dX4_total_30 : decode cX4_total 30 = .ok (.getfield 45, 3) := by decide +kernel
theorem dX4_total_33 : decode cX4_total 33 = .ok (.if_icmp .ge 48, 3) := by decide +kernel
theorem dX4_total_36 : decode cX4_total 36 = .ok (.aload_n 0, 1) := by decide +kernel
theorem dX4_total_37 : decode cX4_total 37 = .ok (.iload 4, 2) := by decide +kernel
theorem dX4_total_39 : decode cX4_total 39 = .ok (.iload_n 2, 1) := by decide +kernel
theorem dX4_total_4 : decode cX4_total 4 = .ok (.istore_n 1, 1) := by decide +kernel
theorem dX4_total_40 : decode cX4_total 40 = .ok (.invokevirtual 143, 3) := by decide +kernel
theorem dX4_total_43 : decode cX4_total 43 = .ok (.ifCond .eq 32, 3) := by decide +kernel
theorem dX4_total_46 : decode cX4_total 46 = .ok (.iload_n 1, 1) := by decide +kernel
theorem dX4_total_47 : decode cX4_total 47 = .ok (.aload_n 0, 1) := by decide +kernel
theorem dX4_total_48 : decode cX4_total 48 = .ok (.getfield 28, 3) := by decide +kernel
theorem dX4_total_5 : decode cX4_total 5 = .ok (.iconst 0, 1) := by decide +kernel
theorem dX4_total_51 : decode cX4_total 51 = .ok (.getfield 39, 3) := by decide +kernel
theorem dX4_total_54 : decode cX4_total 54 = .ok (.getfield 147, 3) := by decide +kernel
theorem dX4_total_57 : decode cX4_total 57 = .ok (.iload 4, 2) := by decide +kernel
theorem dX4_total_59 : decode cX4_total 59 = .ok (.iconst 5, 1) := by decide +kernel
theorem dX4_total_6 : decode cX4_total 6 = .ok (.istore_n 2, 1) := by decide +kernel
theorem dX4_total_60 : decode cX4_total 60 = .ok (.imul, 1) := by decide +kernel
theorem dX4_total_61 : decode cX4_total 61 = .ok (.iload_n 2, 1) := by decide +kernel
theorem dX4_total_62 : decode cX4_total 62 = .ok (.iadd, 1) := by decide +kernel
theorem dX4_total_63 : decode cX4_total 63 = .ok (.iaload, 1) := by decide +kernel
theorem dX4_total_64 : decode cX4_total 64 = .ok (.aload_n 0, 1) := by decide +kernel
theorem dX4_total_65 : decode cX4_total 65 = .ok (.iload 4, 2) := by decide +kernel
theorem dX4_total_67 : decode cX4_total 67 = .ok (.iload_n 2, 1) := by decide +kernel
theorem dX4_total_68 : decode cX4_total 68 = .ok (.iload_n 3, 1) := by decide +kernel
theorem dX4_total_69 : decode cX4_total 69 = .ok (.invokevirtual 150, 3) := by decide +kernel
theorem dX4_total_7 : decode cX4_total 7 = .ok (.iload_n 2, 1) := by decide +kernel
theorem dX4_total_72 : decode cX4_total 72 = .ok (.iadd, 1) := by decide +kernel
theorem dX4_total_73 : decode cX4_total 73 = .ok (.iadd, 1) := by decide +kernel
theorem dX4_total_74 : decode cX4_total 74 = .ok (.istore_n 1, 1) := by decide +kernel
theorem dX4_total_75 : decode cX4_total 75 = .ok (.iinc 4 1, 3) := by decide +kernel
theorem dX4_total_78 : decode cX4_total 78 = .ok (.goto (-57), 3) := by decide +kernel
theorem dX4_total_8 : decode cX4_total 8 = .ok (.iconst 5, 1) := by decide +kernel
theorem dX4_total_81 : decode cX4_total 81 = .ok (.iinc 2 1, 3) := by decide +kernel
theorem dX4_total_84 : decode cX4_total 84 = .ok (.goto (-77), 3) := by decide +kernel
theorem dX4_total_87 : decode cX4_total 87 = .ok (.iload_n 1, 1) := by decide +kernel
theorem dX4_total_88 : decode cX4_total 88 = .ok (.ireturn, 1) := by decide +kernel
theorem dX4_total_9 : decode cX4_total 9 = .ok (.if_icmp .ge 78, 3) := by decide +kernel
theorem dX5_begin_0 : decode cX5_begin 0 = .ok (.aload_n 0, 1) := by decide +kernel
theorem dX5_begin_1 : decode cX5_begin 1 = .ok (.iconst 0, 1) := by decide +kernel
theorem dX5_begin_11 : decode cX5_begin 11 = .ok (.invokestatic 67, 3) := by decide +kernel
theorem dX5_begin_14 : decode cX5_begin 14 = .ok (.putfield 9, 3) := by decide +kernel
theorem dX5_begin_17 : decode cX5_begin 17 = .ok (.aload_n 0, 1) := by decide +kernel
theorem dX5_begin_18 : decode cX5_begin 18 = .ok (.iconst 0, 1) := by decide +kernel
theorem dX5_begin_19 : decode cX5_begin 19 = .ok (.putfield 15, 3) := by decide +kernel
theorem dX5_begin_2 : decode cX5_begin 2 = .ok (.iload_n 1, 1) := by decide +kernel
theorem dX5_begin_22 : decode cX5_begin 22 = .ok (.aload_n 0, 1) := by decide +kernel
theorem dX5_begin_23 : decode cX5_begin 23 = .ok (.iconst 0, 1) := by decide +kernel
theorem dX5_begin_24 : decode cX5_begin 24 = .ok (.putfield 21, 3) := by decide +kernel
theorem dX5_begin_27 : decode cX5_begin 27 = .ok (.aload_n 0, 1) := by decide +kernel
theorem dX5_begin_28 : decode cX5_begin 28 = .ok (.iconst 0, 1) := by decide +kernel
theorem dX5_begin_29 : decode cX5_begin 29 = .ok (.putfield 30, 3) := by decide +kernel
theorem dX5_begin_3 : decode cX5_begin 3 = .ok (.aload_n 0, 1) := by decide +kernel
theorem dX5_begin_32 : decode cX5_begin 32 = .ok (.aload_n 0, 1) := by decide +kernel
theorem dX5_begin_33 : decode cX5_begin 33 = .ok (.iconst (-1), 1) := by decide +kernel
theorem dX5_begin_34 : decode cX5_begin 34 = .ok (.putfield 33, 3) := by decide +kernel
theorem dX5_begin_37 : decode cX5_begin 37 = .ok (.aload_n 0, 1) := by decide +kernel
theorem dX5_begin_38 : decode cX5_begin 38 = .ok (.invokevirtual 70, 3) := by decide +kernel
theorem dX5_begin_4 : decode cX5_begin 4 = .ok (.getfield 40, 3) := by decide +kernel
theorem dX5_begin_41 : decode cX5_begin 41 = .ok (.return_, 1) := by decide +kernel
theorem dX5_begin_7 : decode cX5_begin 7 = .ok (.arraylength, 1) := by decide +kernel
theorem dX5_begin_8 : decode cX5_begin 8 = .ok (.invokestatic 62, 3) := by decide +kernel
theorem dX5_failAt_0 : decode cX5_failAt 0 = .ok (.aload_n 0, 1) := by decide +kernel
theorem dX5_failAt_1 : decode cX5_failAt 1 = .ok (.getfield 30, 3) := by decide +kernel
theorem dX5_failAt_12 : decode cX5_failAt 12 = .ok (.aload_n 0, 1) := by decide +kernel
theorem dX5_failAt_13 : decode cX5_failAt 13 = .ok (.iload_n 2, 1) := by decide +kernel
theorem dX5_failAt_14 : decode cX5_failAt 14 = .ok (.putfield 33, 3) := by decide +kernel
theorem dX5_failAt_17 : decode cX5_failAt 17 = .ok (.aload_n 0, 1) := by decide +kernel
theorem dX5_failAt_18 : decode cX5_failAt 18 = .ok (.iconst 0, 1) := by decide +kernel
theorem dX5_failAt_19 : decode cX5_failAt 19 = .ok (.putfield 21, 3) := by decide +kernel
theorem dX5_failAt_22 : decode cX5_failAt 22 = .ok (.aload_n 0, 1) := by decide +kernel
theorem dX5_failAt_23 : decode cX5_failAt 23 = .ok (.iconst (-1), 1) := by decide +kernel
theorem dX5_failAt_24 : decode cX5_failAt 24 = .ok (.putfield 27, 3) := by decide +kernel
theorem dX5_failAt_27 : decode cX5_failAt 27 = .ok (.return_, 1) := by decide +kernel
theorem dX5_failAt_4 : decode cX5_failAt 4 = .ok (.ifCond .ne 13, 3) := by decide +kernel
theorem dX5_failAt_7 : decode cX5_failAt 7 = .ok (.aload_n 0, 1) := by decide +kernel
theorem dX5_failAt_8 : decode cX5_failAt 8 = .ok (.iload_n 1, 1) := by decide +kernel
theorem dX5_failAt_9 : decode cX5_failAt 9 = .ok (.putfield 30, 3) := by decide +kernel
theorem dX5_fail_0 : decode cX5_fail 0 = .ok (.aload_n 0, 1) := by decide +kernel
theorem dX5_fail_1 : decode cX5_fail 1 = .ok (.iload_n 1, 1) := by decide +kernel
theorem dX5_fail_2 : decode cX5_fail 2 = .ok (.aload_n 0, 1) := by decide +kernel
theorem dX5_fail_3 : decode cX5_fail 3 = .ok (.getfield 18, 3) := by decide +kernel
theorem dX5_fail_6 : decode cX5_fail 6 = .ok (.invokevirtual 73, 3) := by decide +kernel
theorem dX5_fail_9 : decode cX5_fail 9 = .ok (.return_, 1) := by decide +kernel
theorem dX5_takeDigits_0 : decode cX5_takeDigits 0 = .ok (.iconst 0, 1) := by decide +kernel
theorem dX5_takeDigits_1 : decode cX5_takeDigits 1 = .ok (.istore_n 1, 1) := by decide +kernel
theorem dX5_takeDigits_10 : decode cX5_takeDigits 10 = .ok (.if_icmp .ge 72, 3) := by decide +kernel
theorem dX5_takeDigits_13 : decode cX5_takeDigits 13 = .ok (.aload_n 0, 1) := by decide +kernel
theorem dX5_takeDigits_14 : decode cX5_takeDigits 14 = .ok (.getfield 40, 3) := by decide +kernel
theorem dX5_takeDigits_17 : decode cX5_takeDigits 17 = .ok (.aload_n 0, 1) := by decide +kernel
theorem dX5_takeDigits_18 : decode cX5_takeDigits 18 = .ok (.getfield 15, 3) := by decide +kernel
theorem dX5_takeDigits_2 : decode cX5_takeDigits 2 = .ok (.aload_n 0, 1) := by decide +kernel
theorem dX5_takeDigits_21 : decode cX5_takeDigits 21 = .ok (.iaload, 1) := by decide +kernel
theorem dX5_takeDigits_22 : decode cX5_takeDigits 22 = .ok (.invokestatic 95, 3) := by decide +kernel
theorem dX5_takeDigits_25 : decode cX5_takeDigits 25 = .ok (.ifCond .eq 57, 3) := by decide +kernel
theorem dX5_takeDigits_28 : decode cX5_takeDigits 28 = .ok (.aload_n 0, 1) := by decide +kernel
theorem dX5_takeDigits_29 : decode cX5_takeDigits 29 = .ok (.getfield 15, 3) := by decide +kernel
theorem dX5_takeDigits_3 : decode cX5_takeDigits 3 = .ok (.getfield 15, 3) := by decide +kernel
theorem dX5_takeDigits_32 : decode cX5_takeDigits 32 = .ok (.aload_n 0, 1) := by decide +kernel
theorem dX5_takeDigits_33 : decode cX5_takeDigits 33 = .ok (.getfield 18, 3) := by decide +kernel
theorem dX5_takeDigits_36 : decode cX5_takeDigits 36 = .ok (.isub, 1) := by decide +kernel
theorem dX5_takeDigits_37 : decode cX5_takeDigits 37 = .ok (.iconst 4, 1) := by decide +kernel
theorem dX5_takeDigits_38 : decode cX5_takeDigits 38 = .ok (.if_icmp .lt 13, 3) := by decide +kernel
theorem dX5_takeDigits_41 : decode cX5_takeDigits 41 = .ok (.aload_n 0, 1) := by decide +kernel
theorem dX5_takeDigits_42 : decode cX5_takeDigits 42 = .ok (.iconst 1, 1) := by decide +kernel
theorem dX5_takeDigits_43 : decode cX5_takeDigits 43 = .ok (.aload_n 0, 1) := by decide +kernel
theorem dX5_takeDigits_44 : decode cX5_takeDigits 44 = .ok (.getfield 15, 3) := by decide +kernel
theorem dX5_takeDigits_47 : decode cX5_takeDigits 47 = .ok (.invokevirtual 73, 3) := by decide +kernel
theorem dX5_takeDigits_50 : decode cX5_takeDigits 50 = .ok (.return_, 1) := by decide +kernel
theorem dX5_takeDigits_51 : decode cX5_takeDigits 51 = .ok (.iload_n 1, 1) := by decide +kernel
theorem dX5_takeDigits_52 : decode cX5_takeDigits 52 = .ok (.bipush 10, 2) := by decide +kernel
theorem dX5_takeDigits_54 : decode cX5_takeDigits 54 = .ok (.imul, 1) := by decide +kernel
theorem dX5_takeDigits_55 : decode cX5_takeDigits 55 = .ok (.aload_n 0, 1) := by decide +kernel
theorem dX5_takeDigits_56 : decode cX5_takeDigits 56 = .ok (.getfield 40, 3) := by decide +kernel
theorem dX5_takeDigits_59 : decode cX5_takeDigits 59 = .ok (.aload_n 0, 1) := by decide +kernel
theorem dX5_takeDigits_6 : decode cX5_takeDigits 6 = .ok (.aload_n 0, 1) := by decide +kernel
theorem dX5_takeDigits_60 : decode cX5_takeDigits 60 = .ok (.getfield 15, 3) := by decide +kernel
theorem dX5_takeDigits_63 : decode cX5_takeDigits 63 = .ok (.iaload, 1) := by decide +kernel
theorem dX5_takeDigits_64 : decode cX5_takeDigits 64 = .ok (.iadd, 1) := by decide +kernel
theorem dX5_takeDigits_65 : decode cX5_takeDigits 65 = .ok (.bipush 48, 2) := by decide +kernel
theorem dX5_takeDigits_67 : decode cX5_takeDigits 67 = .ok (.isub, 1) := by decide +kernel
theorem dX5_takeDigits_68 : decode cX5_takeDigits 68 = .ok (.istore_n 1, 1) := by decide +kernel
theorem dX5_takeDigits_69 : decode cX5_takeDigits 69 = .ok (.aload_n 0, 1) := by decide +kernel
theorem dX5_takeDigits_7 : decode cX5_takeDigits 7 = .ok (.getfield 9, 3) := by decide +kernel
theorem dX5_takeDigits_70 : decode cX5_takeDigits 70 = .ok (.dup, 1) := by decide +kernel
theorem dX5_takeDigits_71 : decode cX5_takeDigits 71 = .ok (.getfield 15, 3) := by decide +kernel
theorem dX5_takeDigits_74 : decode cX5_takeDigits 74 = .ok (.iconst 1, 1) := by decide +kernel
theorem dX5_takeDigits_75 : decode cX5_takeDigits 75 = .ok (.iadd, 1) := by decide +kernel
theorem dX5_takeDigits_76 : decode cX5_takeDigits 76 = .ok (.putfield 15, 3) := by decide +kernel
theorem dX5_takeDigits_79 : decode cX5_takeDigits 79 = .ok (.goto (-77), 3) := by decide +kernel
theorem dX5_takeDigits_82 : decode cX5_takeDigits 82 = .ok (.aload_n 0, 1) := by decide +kernel
theorem dX5_takeDigits_83 : decode cX5_takeDigits 83 = .ok (.iconst 2, 1) := by decide +kernel
theorem dX5_takeDigits_84 : decode cX5_takeDigits 84 = .ok (.putfield 21, 3) := by decide +kernel
theorem dX5_takeDigits_87 : decode cX5_takeDigits 87 = .ok (.aload_n 0, 1) := by decide +kernel
theorem dX5_takeDigits_88 : decode cX5_takeDigits 88 = .ok (.iload_n 1, 1) := by decide +kernel
theorem dX5_takeDigits_89 : decode cX5_takeDigits 89 = .ok (.putfield 24, 3) := by decide +kernel
theorem dX5_takeDigits_92 : decode cX5_takeDigits 92 = .ok (.return_, 1) := by decide +kernel
theorem dX5_takeLetters_0 : decode cX5_takeLetters 0 = .ok (.iconst 0, 1) := by decide +kernel
theorem dX5_takeLetters_1 : decode cX5_takeLetters 1 = .ok (.istore_n 1, 1) := by decide +kernel
theorem dX5_takeLetters_10 : decode cX5_takeLetters 10 = .ok (.if_icmp .ge 69, 3) := by decide +kernel
theorem dX5_takeLetters_102 : decode cX5_takeLetters 102 = .ok (.aload_n 0, 1) := by decide +kernel
theorem dX5_takeLetters_103 : decode cX5_takeLetters 103 = .ok (.getfield 36, 3) := by decide +kernel
theorem dX5_takeLetters_106 : decode cX5_takeLetters 106 = .ok (.iload_n 2, 1) := by decide +kernel
theorem dX5_takeLetters_107 : decode cX5_takeLetters 107 = .ok (.iaload, 1) := by decide +kernel
theorem dX5_takeLetters_108 : decode cX5_takeLetters 108 = .ok (.iload_n 1, 1) := by decide +kernel
theorem dX5_takeLetters_109 : decode cX5_takeLetters 109 = .ok (.if_icmp .ne 8, 3) := by decide +kernel
theorem dX5_takeLetters_112 : decode cX5_takeLetters 112 = .ok (.aload_n 0, 1) := by decide +kernel
theorem dX5_takeLetters_113 : decode cX5_takeLetters 113 = .ok (.iload_n 2, 1) := by decide +kernel
theorem dX5_takeLetters_114 : decode cX5_takeLetters 114 = .ok (.putfield 27, 3) := by decide +kernel
theorem dX5_takeLetters_117 : decode cX5_takeLetters 117 = .ok (.iinc 2 1, 3) := by decide +kernel
theorem dX5_takeLetters_120 : decode cX5_takeLetters 120 = .ok (.goto (-24), 3) := by decide +kernel
theorem dX5_takeLetters_123 : decode cX5_takeLetters 123 = .ok (.return_, 1) := by decide +kernel
theorem dX5_takeLetters_13 : decode cX5_takeLetters 13 = .ok (.aload_n 0, 1) := by decide +kernel
theorem dX5_takeLetters_14 : decode cX5_takeLetters 14 = .ok (.getfield 40, 3) := by decide +kernel
theorem dX5_takeLetters_17 : decode cX5_takeLetters 17 = .ok (.aload_n 0, 1) := by decide +kernel
theorem dX5_takeLetters_18 : decode cX5_takeLetters 18 = .ok (.getfield 15, 3) := by decide +kernel
theorem dX5_takeLetters_2 : decode cX5_takeLetters 2 = .ok (.aload_n 0, 1) := by decide +kernel
theorem dX5_takeLetters_21 : decode cX5_takeLetters 21 = .ok (.iaload, 1) := by decide +kernel
theorem dX5_takeLetters_22 : decode cX5_takeLetters 22 = .ok (.invokestatic 92, 3) := by decide +kernel
theorem dX5_takeLetters_25 : decode cX5_takeLetters 25 = .ok (.ifCond .eq 54, 3) := by decide +kernel
theorem dX5_takeLetters_28 : decode cX5_takeLetters 28 = .ok (.aload_n 0, 1) := by decide +kernel
theorem dX5_takeLetters_29 : decode cX5_takeLetters 29 = .ok (.getfield 15, 3) := by decide +kernel
theorem dX5_takeLetters_3 : decode cX5_takeLetters 3 = .ok (.getfield 15, 3) := by decide +kernel
theorem dX5_takeLetters_32 : decode cX5_takeLetters 32 = .ok (.aload_n 0, 1) := by decide +kernel
theorem dX5_takeLetters_33 : decode cX5_takeLetters 33 = .ok (.getfield 18, 3) := by decide +kernel
theorem dX5_takeLetters_36 : decode cX5_takeLetters 36 = .ok (.isub, 1) := by decide +kernel
theorem dX5_takeLetters_37 : decode cX5_takeLetters 37 = .ok (.bipush 6, 2) := by decide +kernel
theorem dX5_takeLetters_39 : decode cX5_takeLetters 39 = .ok (.if_icmp .lt 13, 3) := by decide +kernel
theorem dX5_takeLetters_42 : decode cX5_takeLetters 42 = .ok (.aload_n 0, 1) := by decide +kernel
theorem dX5_takeLetters_43 : decode cX5_takeLetters 43 = .ok (.iconst 1, 1) := by decide +kernel
theorem dX5_takeLetters_44 : decode cX5_takeLetters 44 = .ok (.aload_n 0, 1) := by decide +kernel
theorem dX5_takeLetters_45 : decode cX5_takeLetters 45 = .ok (.getfield 15, 3) := by decide +kernel
theorem dX5_takeLetters_48 : decode cX5_takeLetters 48 = .ok (.invokevirtual 73, 3) := by decide +kernel
theorem dX5_takeLetters_51 : decode cX5_takeLetters 51 = .ok (.return_, 1) := by decide +kernel
theorem dX5_takeLetters_52 : decode cX5_takeLetters 52 = .ok (.iload_n 1, 1) := by decide +kernel
theorem dX5_takeLetters_53 : decode cX5_takeLetters 53 = .ok (.aload_n 0, 1) := by decide +kernel
theorem dX5_takeLetters_54 : decode cX5_takeLetters 54 = .ok (.getfield 40, 3) := by decide +kernel
theorem dX5_takeLetters_57 : decode cX5_takeLetters 57 = .ok (.aload_n 0, 1) := by decide +kernel
theorem dX5_takeLetters_58 : decode cX5_takeLetters 58 = .ok (.getfield 15, 3) := by decide +kernel
theorem dX5_takeLetters_6 : decode cX5_takeLetters 6 = .ok (.aload_n 0, 1) := by decide +kernel
theorem dX5_takeLetters_61 : decode cX5_takeLetters 61 = .ok (.iaload, 1) := by decide +kernel
theorem dX5_takeLetters_62 : decode cX5_takeLetters 62 = .ok (.invokestatic 58, 3) := by decide +kernel
theorem dX5_takeLetters_65 : decode cX5_takeLetters 65 = .ok (.istore_n 1, 1) := by decide +kernel
theorem dX5_takeLetters_66 : decode cX5_takeLetters 66 = .ok (.aload_n 0, 1) := by decide +kernel
theorem dX5_takeLetters_67 : decode cX5_takeLetters 67 = .ok (.dup, 1) := by decide +kernel
theorem dX5_takeLetters_68 : decode cX5_takeLetters 68 = .ok (.getfield 15, 3) := by decide +kernel
theorem dX5_takeLetters_7 : decode cX5_takeLetters 7 = .ok (.getfield 9, 3) := by decide +kernel
theorem dX5_takeLetters_71 : decode cX5_takeLetters 71 = .ok (.iconst 1, 1) := by decide +kernel
theorem dX5_takeLetters_72 : decode cX5_takeLetters 72 = .ok (.iadd, 1) := by decide +kernel
theorem dX5_takeLetters_73 : decode cX5_takeLetters 73 = .ok (.putfield 15, 3) := by decide +kernel
theorem dX5_takeLetters_76 : decode cX5_takeLetters 76 = .ok (.goto (-74), 3) := by decide +kernel
theorem dX5_takeLetters_79 : decode cX5_takeLetters 79 = .ok (.aload_n 0, 1) := by decide +kernel
theorem dX5_takeLetters_80 : decode cX5_takeLetters 80 = .ok (.iconst 1, 1) := by decide +kernel
theorem dX5_takeLetters_81 : decode cX5_takeLetters 81 = .ok (.putfield 21, 3) := by decide +kernel
theorem dX5_takeLetters_84 : decode cX5_takeLetters 84 = .ok (.aload_n 0, 1) := by decide +kernel
theorem dX5_takeLetters_85 : decode cX5_takeLetters 85 = .ok (.iload_n 1, 1) := by decide +kernel
theorem dX5_takeLetters_86 : decode cX5_takeLetters 86 = .ok (.putfield 24, 3) := by decide +kernel
theorem dX5_takeLetters_89 : decode cX5_takeLetters 89 = .ok (.aload_n 0, 1) := by decide +kernel
theorem dX5_takeLetters_90 : decode cX5_takeLetters 90 = .ok (.iconst (-1), 1) := by decide +kernel
theorem dX5_takeLetters_91 : decode cX5_takeLetters 91 = .ok (.putfield 27, 3) := by decide +kernel
theorem dX5_takeLetters_94 : decode cX5_takeLetters 94 = .ok (.iconst 0, 1) := by decide +kernel
theorem dX5_takeLetters_95 : decode cX5_takeLetters 95 = .ok (.istore_n 2, 1) := by decide +kernel
theorem dX5_takeLetters_96 : decode cX5_takeLetters 96 = .ok (.iload_n 2, 1) := by decide +kernel
theorem dX5_takeLetters_97 : decode cX5_takeLetters 97 = .ok (.bipush 33, 2) := by decide +kernel
theorem dX5_takeLetters_99 : decode cX5_takeLetters 99 = .ok (.if_icmp .ge 24, 3) := by decide +kernel
theorem dX5_takeOwnWord_0 : decode cX5_takeOwnWord 0 = .ok (.aload_n 0, 1) := by decide +kernel
theorem dX5_takeOwnWord_1 : decode cX5_takeOwnWord 1 = .ok (.getfield 27, 3) := by decide +kernel
theorem dX5_takeOwnWord_12 : decode cX5_takeOwnWord 12 = .ok (.goto 8, 3) := by decide +kernel
theorem dX5_takeOwnWord_15 : decode cX5_takeOwnWord 15 = .ok (.aload_n 0, 1) := by decide +kernel
theorem dX5_takeOwnWord_16 : decode cX5_takeOwnWord 16 = .ok (.iconst 1, 1) := by decide +kernel
theorem dX5_takeOwnWord_17 : decode cX5_takeOwnWord 17 = .ok (.invokevirtual 81, 3) := by decide +kernel
theorem dX5_takeOwnWord_20 : decode cX5_takeOwnWord 20 = .ok (.return_, 1) := by decide +kernel
theorem dX5_takeOwnWord_4 : decode cX5_takeOwnWord 4 = .ok (.iload_n 1, 1) := by decide +kernel
theorem dX5_takeOwnWord_5 : decode cX5_takeOwnWord 5 = .ok (.if_icmp .ne 10, 3) := by decide +kernel
theorem dX5_takeOwnWord_8 : decode cX5_takeOwnWord 8 = .ok (.aload_n 0, 1) := by decide +kernel
theorem dX5_takeOwnWord_9 : decode cX5_takeOwnWord 9 = .ok (.invokevirtual 70, 3) := by decide +kernel
theorem dX5_takeSign_0 : decode cX5_takeSign 0 = .ok (.aload_n 0, 1) := by decide +kernel
theorem dX5_takeSign_1 : decode cX5_takeSign 1 = .ok (.iload_n 1, 1) := by decide +kernel
theorem dX5_takeSign_12 : decode cX5_takeSign 12 = .ok (.goto 8, 3) := by decide +kernel
theorem dX5_takeSign_15 : decode cX5_takeSign 15 = .ok (.aload_n 0, 1) := by decide +kernel
theorem dX5_takeSign_16 : decode cX5_takeSign 16 = .ok (.iconst 1, 1) := by decide +kernel
theorem dX5_takeSign_17 : decode cX5_takeSign 17 = .ok (.invokevirtual 81, 3) := by decide +kernel
theorem dX5_takeSign_2 : decode cX5_takeSign 2 = .ok (.invokevirtual 77, 3) := by decide +kernel
theorem dX5_takeSign_20 : decode cX5_takeSign 20 = .ok (.return_, 1) := by decide +kernel
theorem dX5_takeSign_5 : decode cX5_takeSign 5 = .ok (.ifCond .eq 10, 3) := by decide +kernel
theorem dX5_takeSign_8 : decode cX5_takeSign 8 = .ok (.aload_n 0, 1) := by decide +kernel
theorem dX5_takeSign_9 : decode cX5_takeSign 9 = .ok (.invokevirtual 70, 3) := by decide +kernel
theorem dX5_take_0 : decode cX5_take 0 = .ok (.aload_n 0, 1) := by decide +kernel
theorem dX5_take_1 : decode cX5_take 1 = .ok (.invokevirtual 85, 3) := by decide +kernel
theorem dX5_take_100 : decode cX5_take 100 = .ok (.if_icmp .lt 4, 3) := by decide +kernel
theorem dX5_take_103 : decode cX5_take 103 = .ok (.return_, 1) := by decide +kernel
theorem dX5_take_104 : decode cX5_take 104 = .ok (.aload_n 0, 1) := by decide +kernel
theorem dX5_take_105 : decode cX5_take 105 = .ok (.getfield 40, 3) := by decide +kernel
theorem dX5_take_108 : decode cX5_take 108 = .ok (.aload_n 0, 1) := by decide +kernel
theorem dX5_take_109 : decode cX5_take 109 = .ok (.getfield 15, 3) := by decide +kernel
theorem dX5_take_112 : decode cX5_take 112 = .ok (.iaload, 1) := by decide +kernel
theorem dX5_take_113 : decode cX5_take 113 = .ok (.istore_n 3, 1) := by decide +kernel
theorem dX5_take_114 : decode cX5_take 114 = .ok (.iload_n 1, 1) := by decide +kernel
theorem dX5_take_115 : decode cX5_take 115 = .ok (.ifCond .eq 33, 3) := by decide +kernel
theorem dX5_take_118 : decode cX5_take 118 = .ok (.aload_n 0, 1) := by decide +kernel
theorem dX5_take_119 : decode cX5_take 119 = .ok (.getfield 15, 3) := by decide +kernel
theorem dX5_take_12 : decode cX5_take 12 = .ok (.iconst 1, 1) := by decide +kernel
theorem dX5_take_122 : decode cX5_take 122 = .ok (.iload_n 2, 1) := by decide +kernel
theorem dX5_take_123 : decode cX5_take 123 = .ok (.if_icmp .ne 25, 3) := by decide +kernel
theorem dX5_take_126 : decode cX5_take 126 = .ok (.iload_n 3, 1) := by decide +kernel
theorem dX5_take_127 : decode cX5_take 127 = .ok (.invokestatic 92, 3) := by decide +kernel
theorem dX5_take_13 : decode cX5_take 13 = .ok (.if_icmp .eq 11, 3) := by decide +kernel
theorem dX5_take_130 : decode cX5_take 130 = .ok (.ifCond .ne 10, 3) := by decide +kernel
theorem dX5_take_133 : decode cX5_take 133 = .ok (.iload_n 3, 1) := by decide +kernel
theorem dX5_take_134 : decode cX5_take 134 = .ok (.invokestatic 95, 3) := by decide +kernel
theorem dX5_take_137 : decode cX5_take 137 = .ok (.ifCond .eq 11, 3) := by decide +kernel
theorem dX5_take_140 : decode cX5_take 140 = .ok (.aload_n 0, 1) := by decide +kernel
theorem dX5_take_141 : decode cX5_take 141 = .ok (.iconst 1, 1) := by decide +kernel
theorem dX5_take_142 : decode cX5_take 142 = .ok (.invokevirtual 81, 3) := by decide +kernel
theorem dX5_take_145 : decode cX5_take 145 = .ok (.goto 51, 3) := by decide +kernel
theorem dX5_take_148 : decode cX5_take 148 = .ok (.iload_n 3, 1) := by decide +kernel
theorem dX5_take_149 : decode cX5_take 149 = .ok (.invokestatic 92, 3) := by decide +kernel
theorem dX5_take_152 : decode cX5_take 152 = .ok (.ifCond .eq 10, 3) := by decide +kernel
theorem dX5_take_155 : decode cX5_take 155 = .ok (.aload_n 0, 1) := by decide +kernel
theorem dX5_take_156 : decode cX5_take 156 = .ok (.invokevirtual 98, 3) := by decide +kernel
theorem dX5_take_159 : decode cX5_take 159 = .ok (.goto 37, 3) := by decide +kernel
theorem dX5_take_16 : decode cX5_take 16 = .ok (.aload_n 0, 1) := by decide +kernel
theorem dX5_take_162 : decode cX5_take 162 = .ok (.iload_n 3, 1) := by decide +kernel
theorem dX5_take_163 : decode cX5_take 163 = .ok (.invokestatic 95, 3) := by decide +kernel
theorem dX5_take_166 : decode cX5_take 166 = .ok (.ifCond .eq 10, 3) := by decide +kernel
theorem dX5_take_169 : decode cX5_take 169 = .ok (.aload_n 0, 1) := by decide +kernel
theorem dX5_take_17 : decode cX5_take 17 = .ok (.getfield 21, 3) := by decide +kernel
theorem dX5_take_170 : decode cX5_take 170 = .ok (.invokevirtual 101, 3) := by decide +kernel
theorem dX5_take_173 : decode cX5_take 173 = .ok (.goto 23, 3) := by decide +kernel
theorem dX5_take_176 : decode cX5_take 176 = .ok (.aload_n 0, 1) := by decide +kernel
theorem dX5_take_177 : decode cX5_take 177 = .ok (.iconst 3, 1) := by decide +kernel
theorem dX5_take_178 : decode cX5_take 178 = .ok (.putfield 21, 3) := by decide +kernel
theorem dX5_take_181 : decode cX5_take 181 = .ok (.aload_n 0, 1) := by decide +kernel
theorem dX5_take_182 : decode cX5_take 182 = .ok (.iload_n 3, 1) := by decide +kernel
theorem dX5_take_183 : decode cX5_take 183 = .ok (.putfield 24, 3) := by decide +kernel
theorem dX5_take_186 : decode cX5_take 186 = .ok (.aload_n 0, 1) := by decide +kernel
theorem dX5_take_187 : decode cX5_take 187 = .ok (.dup, 1) := by decide +kernel
theorem dX5_take_188 : decode cX5_take 188 = .ok (.getfield 15, 3) := by decide +kernel
theorem dX5_take_191 : decode cX5_take 191 = .ok (.iconst 1, 1) := by decide +kernel
theorem dX5_take_192 : decode cX5_take 192 = .ok (.iadd, 1) := by decide +kernel
theorem dX5_take_193 : decode cX5_take 193 = .ok (.putfield 15, 3) := by decide +kernel
theorem dX5_take_196 : decode cX5_take 196 = .ok (.return_, 1) := by decide +kernel
theorem dX5_take_20 : decode cX5_take 20 = .ok (.iconst 2, 1) := by decide +kernel
theorem dX5_take_21 : decode cX5_take 21 = .ok (.if_icmp .ne 7, 3) := by decide +kernel
theorem dX5_take_24 : decode cX5_take 24 = .ok (.iconst 1, 1) := by decide +kernel
theorem dX5_take_25 : decode cX5_take 25 = .ok (.goto 4, 3) := by decide +kernel
theorem dX5_take_28 : decode cX5_take 28 = .ok (.iconst 0, 1) := by decide +kernel
theorem dX5_take_29 : decode cX5_take 29 = .ok (.istore_n 1, 1) := by decide +kernel
theorem dX5_take_30 : decode cX5_take 30 = .ok (.aload_n 0, 1) := by decide +kernel
theorem dX5_take_31 : decode cX5_take 31 = .ok (.getfield 15, 3) := by decide +kernel
theorem dX5_take_34 : decode cX5_take 34 = .ok (.istore_n 2, 1) := by decide +kernel
theorem dX5_take_35 : decode cX5_take 35 = .ok (.aload_n 0, 1) := by decide +kernel
theorem dX5_take_36 : decode cX5_take 36 = .ok (.getfield 15, 3) := by decide +kernel
theorem dX5_take_39 : decode cX5_take 39 = .ok (.aload_n 0, 1) := by decide +kernel
theorem dX5_take_4 : decode cX5_take 4 = .ok (.ifCond .eq 4, 3) := by decide +kernel
theorem dX5_take_40 : decode cX5_take 40 = .ok (.getfield 9, 3) := by decide +kernel
theorem dX5_take_43 : decode cX5_take 43 = .ok (.if_icmp .ge 31, 3) := by decide +kernel
theorem dX5_take_46 : decode cX5_take 46 = .ok (.aload_n 0, 1) := by decide +kernel
theorem dX5_take_47 : decode cX5_take 47 = .ok (.getfield 40, 3) := by decide +kernel
theorem dX5_take_50 : decode cX5_take 50 = .ok (.aload_n 0, 1) := by decide +kernel
theorem dX5_take_51 : decode cX5_take 51 = .ok (.getfield 15, 3) := by decide +kernel
theorem dX5_take_54 : decode cX5_take 54 = .ok (.iaload, 1) := by decide +kernel
theorem dX5_take_55 : decode cX5_take 55 = .ok (.invokestatic 89, 3) := by decide +kernel
theorem dX5_take_58 : decode cX5_take 58 = .ok (.ifCond .eq 16, 3) := by decide +kernel
theorem dX5_take_61 : decode cX5_take 61 = .ok (.aload_n 0, 1) := by decide +kernel
theorem dX5_take_62 : decode cX5_take 62 = .ok (.dup, 1) := by decide +kernel
theorem dX5_take_63 : decode cX5_take 63 = .ok (.getfield 15, 3) := by decide +kernel
theorem dX5_take_66 : decode cX5_take 66 = .ok (.iconst 1, 1) := by decide +kernel
theorem dX5_take_67 : decode cX5_take 67 = .ok (.iadd, 1) := by decide +kernel
theorem dX5_take_68 : decode cX5_take 68 = .ok (.putfield 15, 3) := by decide +kernel
theorem dX5_take_7 : decode cX5_take 7 = .ok (.return_, 1) := by decide +kernel
theorem dX5_take_71 : decode cX5_take 71 = .ok (.goto (-36), 3) := by decide +kernel
theorem dX5_take_74 : decode cX5_take 74 = .ok (.aload_n 0, 1) := by decide +kernel
theorem dX5_take_75 : decode cX5_take 75 = .ok (.aload_n 0, 1) := by decide +kernel
theorem dX5_take_76 : decode cX5_take 76 = .ok (.getfield 15, 3) := by decide +kernel
theorem dX5_take_79 : decode cX5_take 79 = .ok (.putfield 18, 3) := by decide +kernel
theorem dX5_take_8 : decode cX5_take 8 = .ok (.aload_n 0, 1) := by decide +kernel
theorem dX5_take_82 : decode cX5_take 82 = .ok (.aload_n 0, 1) := by decide +kernel
theorem dX5_take_83 : decode cX5_take 83 = .ok (.iconst 0, 1) := by decide +kernel
theorem dX5_take_84 : decode cX5_take 84 = .ok (.putfield 21, 3) := by decide +kernel
theorem dX5_take_87 : decode cX5_take 87 = .ok (.aload_n 0, 1) := by decide +kernel
theorem dX5_take_88 : decode cX5_take 88 = .ok (.iconst (-1), 1) := by decide +kernel
theorem dX5_take_89 : decode cX5_take 89 = .ok (.putfield 27, 3) := by decide +kernel
theorem dX5_take_9 : decode cX5_take 9 = .ok (.getfield 21, 3) := by decide +kernel
theorem dX5_take_92 : decode cX5_take 92 = .ok (.aload_n 0, 1) := by decide +kernel
theorem dX5_take_93 : decode cX5_take 93 = .ok (.getfield 15, 3) := by decide +kernel
theorem dX5_take_96 : decode cX5_take 96 = .ok (.aload_n 0, 1) := by decide +kernel
theorem dX5_take_97 : decode cX5_take 97 = .ok (.getfield 9, 3) := by decide +kernel
theorem dX6_addTaken_0 : decode cX6_addTaken 0 = .ok (.aload_n 0, 1) := by decide +kernel
theorem dX6_addTaken_1 : decode cX6_addTaken 1 = .ok (.getfield 15, 3) := by decide +kernel
theorem dX6_addTaken_10 : decode cX6_addTaken 10 = .ok (.getfield 9, 3) := by decide +kernel
theorem dX6_addTaken_13 : decode cX6_addTaken 13 = .ok (.invokevirtual 49, 3) := by decide +kernel
theorem dX6_addTaken_16 : decode cX6_addTaken 16 = .ok (.return_, 1) := by decide +kernel
theorem dX6_addTaken_4 : decode cX6_addTaken 4 = .ok (.iload_n 1, 1) := by decide +kernel
theorem dX6_addTaken_5 : decode cX6_addTaken 5 = .ok (.iload_n 2, 1) := by decide +kernel
theorem dX6_addTaken_6 : decode cX6_addTaken 6 = .ok (.invokevirtual 52, 3) := by decide +kernel
theorem dX6_addTaken_9 : decode cX6_addTaken 9 = .ok (.aload_n 0, 1) := by decide +kernel
theorem dX6_takeComparison_0 : decode cX6_takeComparison 0 = .ok (.bipush 17, 2) := by decide +kernel
theorem dX6_takeComparison_12 : decode cX6_takeComparison 12 = .ok (.ifCond .eq 9, 3) := by decide +kernel
theorem dX6_takeComparison_15 : decode cX6_takeComparison 15 = .ok (.bipush 15, 2) := by decide +kernel
theorem dX6_takeComparison_17 : decode cX6_takeComparison 17 = .ok (.istore_n 1, 1) := by decide +kernel
theorem dX6_takeComparison_18 : decode cX6_takeComparison 18 = .ok (.goto 41, 3) := by decide +kernel
theorem dX6_takeComparison_2 : decode cX6_takeComparison 2 = .ok (.istore_n 1, 1) := by decide +kernel
theorem dX6_takeComparison_21 : decode cX6_takeComparison 21 = .ok (.aload_n 0, 1) := by decide +kernel
theorem dX6_takeComparison_22 : decode cX6_takeComparison 22 = .ok (.getfield 9, 3) := by decide +kernel
theorem dX6_takeComparison_25 : decode cX6_takeComparison 25 = .ok (.bipush 62, 2) := by decide +kernel
theorem dX6_takeComparison_27 : decode cX6_takeComparison 27 = .ok (.invokevirtual 59, 3) := by decide +kernel
theorem dX6_takeComparison_3 : decode cX6_takeComparison 3 = .ok (.aload_n 0, 1) := by decide +kernel
theorem dX6_takeComparison_30 : decode cX6_takeComparison 30 = .ok (.ifCond .eq 9, 3) := by decide +kernel
theorem dX6_takeComparison_33 : decode cX6_takeComparison 33 = .ok (.bipush 16, 2) := by decide +kernel
theorem dX6_takeComparison_35 : decode cX6_takeComparison 35 = .ok (.istore_n 1, 1) := by decide +kernel
theorem dX6_takeComparison_36 : decode cX6_takeComparison 36 = .ok (.goto 23, 3) := by decide +kernel
theorem dX6_takeComparison_39 : decode cX6_takeComparison 39 = .ok (.aload_n 0, 1) := by decide +kernel
theorem dX6_takeComparison_4 : decode cX6_takeComparison 4 = .ok (.getfield 9, 3) := by decide +kernel
theorem dX6_takeComparison_40 : decode cX6_takeComparison 40 = .ok (.getfield 9, 3) := by decide +kernel
theorem dX6_takeComparison_43 : decode cX6_takeComparison 43 = .ok (.bipush 61, 2) := by decide +kernel
theorem dX6_takeComparison_45 : decode cX6_takeComparison 45 = .ok (.invokevirtual 59, 3) := by decide +kernel
theorem dX6_takeComparison_48 : decode cX6_takeComparison 48 = .ok (.ifCond .ne 11, 3) := by decide +kernel
theorem dX6_takeComparison_51 : decode cX6_takeComparison 51 = .ok (.aload_n 0, 1) := by decide +kernel
theorem dX6_takeComparison_52 : decode cX6_takeComparison 52 = .ok (.getfield 9, 3) := by decide +kernel
theorem dX6_takeComparison_55 : decode cX6_takeComparison 55 = .ok (.iconst 1, 1) := by decide +kernel
theorem dX6_takeComparison_56 : decode cX6_takeComparison 56 = .ok (.invokevirtual 77, 3) := by decide +kernel
theorem dX6_takeComparison_59 : decode cX6_takeComparison 59 = .ok (.aload_n 0, 1) := by decide +kernel
theorem dX6_takeComparison_60 : decode cX6_takeComparison 60 = .ok (.getfield 9, 3) := by decide +kernel
theorem dX6_takeComparison_63 : decode cX6_takeComparison 63 = .ok (.invokevirtual 49, 3) := by decide +kernel
theorem dX6_takeComparison_66 : decode cX6_takeComparison 66 = .ok (.iload_n 1, 1) := by decide +kernel
theorem dX6_takeComparison_67 : decode cX6_takeComparison 67 = .ok (.ireturn, 1) := by decide +kernel
theorem dX6_takeComparison_7 : decode cX6_takeComparison 7 = .ok (.bipush 60, 2) := by decide +kernel
theorem dX6_takeComparison_9 : decode cX6_takeComparison 9 = .ok (.invokevirtual 59, 3) := by decide +kernel
theorem dX6_takeOpening_0 : decode cX6_takeOpening 0 = .ok (.aload_n 0, 1) := by decide +kernel
theorem dX6_takeOpening_1 : decode cX6_takeOpening 1 = .ok (.getfield 9, 3) := by decide +kernel
theorem dX6_takeOpening_11 : decode cX6_takeOpening 11 = .ok (.aload_n 0, 1) := by decide +kernel
theorem dX6_takeOpening_12 : decode cX6_takeOpening 12 = .ok (.getfield 9, 3) := by decide +kernel
theorem dX6_takeOpening_15 : decode cX6_takeOpening 15 = .ok (.iconst 1, 1) := by decide +kernel
theorem dX6_takeOpening_16 : decode cX6_takeOpening 16 = .ok (.invokevirtual 77, 3) := by decide +kernel
theorem dX6_takeOpening_19 : decode cX6_takeOpening 19 = .ok (.goto 17, 3) := by decide +kernel
theorem dX6_takeOpening_22 : decode cX6_takeOpening 22 = .ok (.iload_n 2, 1) := by decide +kernel
theorem dX6_takeOpening_23 : decode cX6_takeOpening 23 = .ok (.bipush 8, 2) := by decide +kernel
theorem dX6_takeOpening_25 : decode cX6_takeOpening 25 = .ok (.if_icmp .lt 11, 3) := by decide +kernel
theorem dX6_takeOpening_28 : decode cX6_takeOpening 28 = .ok (.aload_n 0, 1) := by decide +kernel
theorem dX6_takeOpening_29 : decode cX6_takeOpening 29 = .ok (.getfield 9, 3) := by decide +kernel
theorem dX6_takeOpening_32 : decode cX6_takeOpening 32 = .ok (.iconst 5, 1) := by decide +kernel
theorem dX6_takeOpening_33 : decode cX6_takeOpening 33 = .ok (.invokevirtual 77, 3) := by decide +kernel
theorem dX6_takeOpening_36 : decode cX6_takeOpening 36 = .ok (.aload_n 0, 1) := by decide +kernel
theorem dX6_takeOpening_37 : decode cX6_takeOpening 37 = .ok (.getfield 9, 3) := by decide +kernel
theorem dX6_takeOpening_4 : decode cX6_takeOpening 4 = .ok (.iload_n 1, 1) := by decide +kernel
theorem dX6_takeOpening_40 : decode cX6_takeOpening 40 = .ok (.invokevirtual 49, 3) := by decide +kernel
theorem dX6_takeOpening_43 : decode cX6_takeOpening 43 = .ok (.aload_n 0, 1) := by decide +kernel
theorem dX6_takeOpening_44 : decode cX6_takeOpening 44 = .ok (.getfield 9, 3) := by decide +kernel
theorem dX6_takeOpening_47 : decode cX6_takeOpening 47 = .ok (.invokevirtual 99, 3) := by decide +kernel
theorem dX6_takeOpening_5 : decode cX6_takeOpening 5 = .ok (.invokevirtual 59, 3) := by decide +kernel
theorem dX6_takeOpening_50 : decode cX6_takeOpening 50 = .ok (.ifCond .ne 7, 3) := by decide +kernel
theorem dX6_takeOpening_53 : decode cX6_takeOpening 53 = .ok (.iconst 1, 1) := by decide +kernel
theorem dX6_takeOpening_54 : decode cX6_takeOpening 54 = .ok (.goto 4, 3) := by decide +kernel
theorem dX6_takeOpening_57 : decode cX6_takeOpening 57 = .ok (.iconst 0, 1) := by decide +kernel
theorem dX6_takeOpening_58 : decode cX6_takeOpening 58 = .ok (.ireturn, 1) := by decide +kernel
theorem dX6_takeOpening_8 : decode cX6_takeOpening 8 = .ok (.ifCond .ne 14, 3) := by decide +kernel
theorem dX7_addStep_0 : decode cX7_addStep 0 = .ok (.aload_n 0, 1) := by decide +kernel
theorem dX7_addStep_1 : decode cX7_addStep 1 = .ok (.getfield 15, 3) := by decide +kernel
theorem dX7_addStep_12 : decode cX7_addStep 12 = .ok (.aload_n 0, 1) := by decide +kernel
theorem dX7_addStep_13 : decode cX7_addStep 13 = .ok (.getfield 18, 3) := by decide +kernel
theorem dX7_addStep_16 : decode cX7_addStep 16 = .ok (.aload_n 0, 1) := by decide +kernel
theorem dX7_addStep_17 : decode cX7_addStep 17 = .ok (.getfield 15, 3) := by decide +kernel
theorem dX7_addStep_20 : decode cX7_addStep 20 = .ok (.iload_n 1, 1) := by decide +kernel
theorem dX7_addStep_21 : decode cX7_addStep 21 = .ok (.iload_n 2, 1) := by decide +kernel
theorem dX7_addStep_22 : decode cX7_addStep 22 = .ok (.iconst 5, 1) := by decide +kernel
theorem dX7_addStep_23 : decode cX7_addStep 23 = .ok (.ishl, 1) := by decide +kernel
theorem dX7_addStep_24 : decode cX7_addStep 24 = .ok (.ior, 1) := by decide +kernel
theorem dX7_addStep_25 : decode cX7_addStep 25 = .ok (.iastore, 1) := by decide +kernel
theorem dX7_addStep_26 : decode cX7_addStep 26 = .ok (.aload_n 0, 1) := by decide +kernel
theorem dX7_addStep_27 : decode cX7_addStep 27 = .ok (.dup, 1) := by decide +kernel
theorem dX7_addStep_28 : decode cX7_addStep 28 = .ok (.getfield 15, 3) := by decide +kernel
theorem dX7_addStep_31 : decode cX7_addStep 31 = .ok (.iconst 1, 1) := by decide +kernel
theorem dX7_addStep_32 : decode cX7_addStep 32 = .ok (.iadd, 1) := by decide +kernel
theorem dX7_addStep_33 : decode cX7_addStep 33 = .ok (.putfield 15, 3) := by decide +kernel
theorem dX7_addStep_36 : decode cX7_addStep 36 = .ok (.return_, 1) := by decide +kernel
theorem dX7_addStep_4 : decode cX7_addStep 4 = .ok (.aload_n 0, 1) := by decide +kernel
theorem dX7_addStep_5 : decode cX7_addStep 5 = .ok (.getfield 18, 3) := by decide +kernel
theorem dX7_addStep_8 : decode cX7_addStep 8 = .ok (.arraylength, 1) := by decide +kernel
theorem dX7_addStep_9 : decode cX7_addStep 9 = .ok (.if_icmp .ge 27, 3) := by decide +kernel
theorem dX7_beginSum_0 : decode cX7_beginSum 0 = .ok (.aload_n 0, 1) := by decide +kernel
theorem dX7_beginSum_1 : decode cX7_beginSum 1 = .ok (.getfield 9, 3) := by decide +kernel
theorem dX7_beginSum_10 : decode cX7_beginSum 10 = .ok (.getfield 22, 3) := by decide +kernel
theorem dX7_beginSum_13 : decode cX7_beginSum 13 = .ok (.aload_n 0, 1) := by decide +kernel
theorem dX7_beginSum_14 : decode cX7_beginSum 14 = .ok (.getfield 9, 3) := by decide +kernel
theorem dX7_beginSum_17 : decode cX7_beginSum 17 = .ok (.aload_n 0, 1) := by decide +kernel
theorem dX7_beginSum_18 : decode cX7_beginSum 18 = .ok (.getfield 15, 3) := by decide +kernel
theorem dX7_beginSum_21 : decode cX7_beginSum 21 = .ok (.iastore, 1) := by decide +kernel
theorem dX7_beginSum_22 : decode cX7_beginSum 22 = .ok (.return_, 1) := by decide +kernel
theorem dX7_beginSum_4 : decode cX7_beginSum 4 = .ok (.bipush 12, 2) := by decide +kernel
theorem dX7_beginSum_6 : decode cX7_beginSum 6 = .ok (.if_icmp .ge 16, 3) := by decide +kernel
theorem dX7_beginSum_9 : decode cX7_beginSum 9 = .ok (.aload_n 0, 1) := by decide +kernel
theorem dX7_beginTest_0 : decode cX7_beginTest 0 = .ok (.aload_n 0, 1) := by decide +kernel
theorem dX7_beginTest_1 : decode cX7_beginTest 1 = .ok (.getfield 9, 3) := by decide +kernel
theorem dX7_beginTest_10 : decode cX7_beginTest 10 = .ok (.getfield 25, 3) := by decide +kernel
theorem dX7_beginTest_13 : decode cX7_beginTest 13 = .ok (.aload_n 0, 1) := by decide +kernel
theorem dX7_beginTest_14 : decode cX7_beginTest 14 = .ok (.getfield 9, 3) := by decide +kernel
theorem dX7_beginTest_17 : decode cX7_beginTest 17 = .ok (.aload_n 0, 1) := by decide +kernel
theorem dX7_beginTest_18 : decode cX7_beginTest 18 = .ok (.getfield 15, 3) := by decide +kernel
theorem dX7_beginTest_21 : decode cX7_beginTest 21 = .ok (.iastore, 1) := by decide +kernel
theorem dX7_beginTest_22 : decode cX7_beginTest 22 = .ok (.return_, 1) := by decide +kernel
theorem dX7_beginTest_4 : decode cX7_beginTest 4 = .ok (.bipush 12, 2) := by decide +kernel
theorem dX7_beginTest_6 : decode cX7_beginTest 6 = .ok (.if_icmp .ge 16, 3) := by decide +kernel
theorem dX7_beginTest_9 : decode cX7_beginTest 9 = .ok (.aload_n 0, 1) := by decide +kernel
theorem dX7_clear_0 : decode cX7_clear 0 = .ok (.aload_n 0, 1) := by decide +kernel
theorem dX7_clear_1 : decode cX7_clear 1 = .ok (.iconst 0, 1) := by decide +kernel
theorem dX7_clear_10 : decode cX7_clear 10 = .ok (.return_, 1) := by decide +kernel
theorem dX7_clear_2 : decode cX7_clear 2 = .ok (.putfield 9, 3) := by decide +kernel
theorem dX7_clear_5 : decode cX7_clear 5 = .ok (.aload_n 0, 1) := by decide +kernel
theorem dX7_clear_6 : decode cX7_clear 6 = .ok (.iconst 0, 1) := by decide +kernel
theorem dX7_clear_7 : decode cX7_clear 7 = .ok (.putfield 15, 3) := by decide +kernel
theorem dX7_close_0 : decode cX7_close 0 = .ok (.aload_n 0, 1) := by decide +kernel
theorem dX7_close_1 : decode cX7_close 1 = .ok (.getfield 9, 3) := by decide +kernel
theorem dX7_close_10 : decode cX7_close 10 = .ok (.getfield 28, 3) := by decide +kernel
theorem dX7_close_13 : decode cX7_close 13 = .ok (.aload_n 0, 1) := by decide +kernel
theorem dX7_close_14 : decode cX7_close 14 = .ok (.getfield 9, 3) := by decide +kernel
theorem dX7_close_17 : decode cX7_close 17 = .ok (.aload_n 0, 1) := by decide +kernel
theorem dX7_close_18 : decode cX7_close 18 = .ok (.getfield 15, 3) := by decide +kernel
theorem dX7_close_21 : decode cX7_close 21 = .ok (.iastore, 1) := by decide +kernel
theorem dX7_close_22 : decode cX7_close 22 = .ok (.aload_n 0, 1) := by decide +kernel
theorem dX7_close_23 : decode cX7_close 23 = .ok (.dup, 1) := by decide +kernel
theorem dX7_close_24 : decode cX7_close 24 = .ok (.getfield 9, 3) := by decide +kernel
theorem dX7_close_27 : decode cX7_close 27 = .ok (.iconst 1, 1) := by decide +kernel
theorem dX7_close_28 : decode cX7_close 28 = .ok (.iadd, 1) := by decide +kernel
theorem dX7_close_29 : decode cX7_close 29 = .ok (.putfield 9, 3) := by decide +kernel
theorem dX7_close_32 : decode cX7_close 32 = .ok (.return_, 1) := by decide +kernel
theorem dX7_close_4 : decode cX7_close 4 = .ok (.bipush 12, 2) := by decide +kernel
theorem dX7_close_6 : decode cX7_close 6 = .ok (.if_icmp .ge 26, 3) := by decide +kernel
theorem dX7_close_9 : decode cX7_close 9 = .ok (.aload_n 0, 1) := by decide +kernel
theorem dX7_firstSum_0 : decode cX7_firstSum 0 = .ok (.aload_n 0, 1) := by decide +kernel
theorem dX7_firstSum_1 : decode cX7_firstSum 1 = .ok (.getfield 31, 3) := by decide +kernel
theorem dX7_firstSum_11 : decode cX7_firstSum 11 = .ok (.iconst 2, 1) := by decide +kernel
theorem dX7_firstSum_12 : decode cX7_firstSum 12 = .ok (.iload_n 2, 1) := by decide +kernel
theorem dX7_firstSum_13 : decode cX7_firstSum 13 = .ok (.iastore, 1) := by decide +kernel
theorem dX7_firstSum_14 : decode cX7_firstSum 14 = .ok (.aload_n 0, 1) := by decide +kernel
theorem dX7_firstSum_15 : decode cX7_firstSum 15 = .ok (.getfield 31, 3) := by decide +kernel
theorem dX7_firstSum_18 : decode cX7_firstSum 18 = .ok (.iconst 3, 1) := by decide +kernel
theorem dX7_firstSum_19 : decode cX7_firstSum 19 = .ok (.iload_n 3, 1) := by decide +kernel
theorem dX7_firstSum_20 : decode cX7_firstSum 20 = .ok (.iastore, 1) := by decide +kernel
theorem dX7_firstSum_21 : decode cX7_firstSum 21 = .ok (.aload_n 0, 1) := by decide +kernel
theorem dX7_firstSum_22 : decode cX7_firstSum 22 = .ok (.getfield 31, 3) := by decide +kernel
theorem dX7_firstSum_25 : decode cX7_firstSum 25 = .ok (.iconst 4, 1) := by decide +kernel
theorem dX7_firstSum_26 : decode cX7_firstSum 26 = .ok (.iload 4, 2) := by decide +kernel
theorem dX7_firstSum_28 : decode cX7_firstSum 28 = .ok (.iastore, 1) := by decide +kernel
theorem dX7_firstSum_29 : decode cX7_firstSum 29 = .ok (.aload_n 0, 1) := by decide +kernel
theorem dX7_firstSum_30 : decode cX7_firstSum 30 = .ok (.getfield 31, 3) := by decide +kernel
theorem dX7_firstSum_33 : decode cX7_firstSum 33 = .ok (.iconst 5, 1) := by decide +kernel
theorem dX7_firstSum_34 : decode cX7_firstSum 34 = .ok (.iload 5, 2) := by decide +kernel
theorem dX7_firstSum_36 : decode cX7_firstSum 36 = .ok (.iastore, 1) := by decide +kernel
theorem dX7_firstSum_37 : decode cX7_firstSum 37 = .ok (.iconst 0, 1) := by decide +kernel
theorem dX7_firstSum_38 : decode cX7_firstSum 38 = .ok (.istore 6, 2) := by decide +kernel
theorem dX7_firstSum_4 : decode cX7_firstSum 4 = .ok (.iconst 1, 1) := by decide +kernel
theorem dX7_firstSum_40 : decode cX7_firstSum 40 = .ok (.iload 6, 2) := by decide +kernel
theorem dX7_firstSum_42 : decode cX7_firstSum 42 = .ok (.aload_n 0, 1) := by decide +kernel
theorem dX7_firstSum_43 : decode cX7_firstSum 43 = .ok (.getfield 9, 3) := by decide +kernel
theorem dX7_firstSum_46 : decode cX7_firstSum 46 = .ok (.if_icmp .ge 49, 3) := by decide +kernel
theorem dX7_firstSum_49 : decode cX7_firstSum 49 = .ok (.aload_n 0, 1) := by decide +kernel
theorem dX7_firstSum_5 : decode cX7_firstSum 5 = .ok (.iload_n 1, 1) := by decide +kernel
theorem dX7_firstSum_50 : decode cX7_firstSum 50 = .ok (.aload_n 0, 1) := by decide +kernel
theorem dX7_firstSum_51 : decode cX7_firstSum 51 = .ok (.getfield 25, 3) := by decide +kernel
theorem dX7_firstSum_54 : decode cX7_firstSum 54 = .ok (.iload 6, 2) := by decide +kernel
theorem dX7_firstSum_56 : decode cX7_firstSum 56 = .ok (.iaload, 1) := by decide +kernel
theorem dX7_firstSum_57 : decode cX7_firstSum 57 = .ok (.aload_n 0, 1) := by decide +kernel
theorem dX7_firstSum_58 : decode cX7_firstSum 58 = .ok (.getfield 28, 3) := by decide +kernel
theorem dX7_firstSum_6 : decode cX7_firstSum 6 = .ok (.iastore, 1) := by decide +kernel
theorem dX7_firstSum_61 : decode cX7_firstSum 61 = .ok (.iload 6, 2) := by decide +kernel
theorem dX7_firstSum_63 : decode cX7_firstSum 63 = .ok (.iaload, 1) := by decide +kernel
theorem dX7_firstSum_64 : decode cX7_firstSum 64 = .ok (.invokevirtual 37, 3) := by decide +kernel
theorem dX7_firstSum_67 : decode cX7_firstSum 67 = .ok (.ifCond .eq 22, 3) := by decide +kernel
theorem dX7_firstSum_7 : decode cX7_firstSum 7 = .ok (.aload_n 0, 1) := by decide +kernel
theorem dX7_firstSum_70 : decode cX7_firstSum 70 = .ok (.aload_n 0, 1) := by decide +kernel
theorem dX7_firstSum_71 : decode cX7_firstSum 71 = .ok (.aload_n 0, 1) := by decide +kernel
theorem dX7_firstSum_72 : decode cX7_firstSum 72 = .ok (.getfield 22, 3) := by decide +kernel
theorem dX7_firstSum_75 : decode cX7_firstSum 75 = .ok (.iload 6, 2) := by decide +kernel
theorem dX7_firstSum_77 : decode cX7_firstSum 77 = .ok (.iaload, 1) := by decide +kernel
theorem dX7_firstSum_78 : decode cX7_firstSum 78 = .ok (.aload_n 0, 1) := by decide +kernel
theorem dX7_firstSum_79 : decode cX7_firstSum 79 = .ok (.getfield 25, 3) := by decide +kernel
theorem dX7_firstSum_8 : decode cX7_firstSum 8 = .ok (.getfield 31, 3) := by decide +kernel
theorem dX7_firstSum_82 : decode cX7_firstSum 82 = .ok (.iload 6, 2) := by decide +kernel
theorem dX7_firstSum_84 : decode cX7_firstSum 84 = .ok (.iaload, 1) := by decide +kernel
theorem dX7_firstSum_85 : decode cX7_firstSum 85 = .ok (.invokevirtual 37, 3) := by decide +kernel
theorem dX7_firstSum_88 : decode cX7_firstSum 88 = .ok (.ireturn, 1) := by decide +kernel
theorem dX7_firstSum_89 : decode cX7_firstSum 89 = .ok (.iinc 6 1, 3) := by decide +kernel
theorem dX7_firstSum_92 : decode cX7_firstSum 92 = .ok (.goto (-52), 3) := by decide +kernel
theorem dX7_firstSum_95 : decode cX7_firstSum 95 = .ok (.iconst 0, 1) := by decide +kernel
theorem dX7_firstSum_96 : decode cX7_firstSum 96 = .ok (.ireturn, 1) := by decide +kernel
theorem dX7_run_0 : decode cX7_run 0 = .ok (.iconst 0, 1) := by decide +kernel
theorem dX7_run_1 : decode cX7_run 1 = .ok (.istore_n 3, 1) := by decide +kernel
theorem dX7_run_101 : decode cX7_run 101 = .ok (.iload_n 3, 1) := by decide +kernel
theorem dX7_run_102 : decode cX7_run 102 = .ok (.iconst 1, 1) := by decide +kernel
theorem dX7_run_103 : decode cX7_run 103 = .ok (.isub, 1) := by decide +kernel
theorem dX7_run_104 : decode cX7_run 104 = .ok (.iaload, 1) := by decide +kernel
theorem dX7_run_105 : decode cX7_run 105 = .ok (.isub, 1) := by decide +kernel
theorem dX7_run_106 : decode cX7_run 106 = .ok (.iastore, 1) := by decide +kernel
theorem dX7_run_107 : decode cX7_run 107 = .ok (.goto 40, 3) := by decide +kernel
theorem dX7_run_11 : decode cX7_run 11 = .ok (.iload 4, 2) := by decide +kernel
theorem dX7_run_110 : decode cX7_run 110 = .ok (.iload_n 3, 1) := by decide +kernel
theorem dX7_run_111 : decode cX7_run 111 = .ok (.iconst 2, 1) := by decide +kernel
theorem dX7_run_112 : decode cX7_run 112 = .ok (.if_icmp .ge 5, 3) := by decide +kernel
theorem dX7_run_115 : decode cX7_run 115 = .ok (.iconst 0, 1) := by decide +kernel
theorem dX7_run_116 : decode cX7_run 116 = .ok (.ireturn, 1) := by decide +kernel
theorem dX7_run_117 : decode cX7_run 117 = .ok (.iinc 3 (-1), 3) := by decide +kernel
theorem dX7_run_120 : decode cX7_run 120 = .ok (.aload_n 0, 1) := by decide +kernel
theorem dX7_run_121 : decode cX7_run 121 = .ok (.getfield 34, 3) := by decide +kernel
theorem dX7_run_124 : decode cX7_run 124 = .ok (.iload_n 3, 1) := by decide +kernel
theorem dX7_run_125 : decode cX7_run 125 = .ok (.iconst 1, 1) := by decide +kernel
theorem dX7_run_126 : decode cX7_run 126 = .ok (.isub, 1) := by decide +kernel
theorem dX7_run_127 : decode cX7_run 127 = .ok (.iload 5, 2) := by decide +kernel
theorem dX7_run_129 : decode cX7_run 129 = .ok (.aload_n 0, 1) := by decide +kernel
theorem dX7_run_13 : decode cX7_run 13 = .ok (.aload_n 0, 1) := by decide +kernel
theorem dX7_run_130 : decode cX7_run 130 = .ok (.getfield 34, 3) := by decide +kernel
theorem dX7_run_133 : decode cX7_run 133 = .ok (.iload_n 3, 1) := by decide +kernel
theorem dX7_run_134 : decode cX7_run 134 = .ok (.iconst 1, 1) := by decide +kernel
theorem dX7_run_135 : decode cX7_run 135 = .ok (.isub, 1) := by decide +kernel
theorem dX7_run_136 : decode cX7_run 136 = .ok (.iaload, 1) := by decide +kernel
theorem dX7_run_137 : decode cX7_run 137 = .ok (.aload_n 0, 1) := by decide +kernel
theorem dX7_run_138 : decode cX7_run 138 = .ok (.getfield 34, 3) := by decide +kernel
theorem dX7_run_14 : decode cX7_run 14 = .ok (.getfield 18, 3) := by decide +kernel
theorem dX7_run_141 : decode cX7_run 141 = .ok (.iload_n 3, 1) := by decide +kernel
theorem dX7_run_142 : decode cX7_run 142 = .ok (.iaload, 1) := by decide +kernel
theorem dX7_run_143 : decode cX7_run 143 = .ok (.invokestatic 44, 3) := by decide +kernel
theorem dX7_run_146 : decode cX7_run 146 = .ok (.iastore, 1) := by decide +kernel
theorem dX7_run_147 : decode cX7_run 147 = .ok (.iinc 4 1, 3) := by decide +kernel
theorem dX7_run_150 : decode cX7_run 150 = .ok (.goto (-145), 3) := by decide +kernel
theorem dX7_run_153 : decode cX7_run 153 = .ok (.iload_n 3, 1) := by decide +kernel
theorem dX7_run_154 : decode cX7_run 154 = .ok (.ifCond .le 12, 3) := by decide +kernel
theorem dX7_run_157 : decode cX7_run 157 = .ok (.aload_n 0, 1) := by decide +kernel
theorem dX7_run_158 : decode cX7_run 158 = .ok (.getfield 34, 3) := by decide +kernel
theorem dX7_run_161 : decode cX7_run 161 = .ok (.iconst 0, 1) := by decide +kernel
theorem dX7_run_162 : decode cX7_run 162 = .ok (.iaload, 1) := by decide +kernel
theorem dX7_run_163 : decode cX7_run 163 = .ok (.goto 4, 3) := by decide +kernel
theorem dX7_run_166 : decode cX7_run 166 = .ok (.iconst 0, 1) := by decide +kernel
theorem dX7_run_167 : decode cX7_run 167 = .ok (.ireturn, 1) := by decide +kernel
theorem dX7_run_17 : decode cX7_run 17 = .ok (.arraylength, 1) := by decide +kernel
theorem dX7_run_18 : decode cX7_run 18 = .ok (.if_icmp .ge 135, 3) := by decide +kernel
theorem dX7_run_2 : decode cX7_run 2 = .ok (.iload_n 1, 1) := by decide +kernel
theorem dX7_run_21 : decode cX7_run 21 = .ok (.aload_n 0, 1) := by decide +kernel
theorem dX7_run_22 : decode cX7_run 22 = .ok (.getfield 18, 3) := by decide +kernel
theorem dX7_run_25 : decode cX7_run 25 = .ok (.iload 4, 2) := by decide +kernel
theorem dX7_run_27 : decode cX7_run 27 = .ok (.iaload, 1) := by decide +kernel
theorem dX7_run_28 : decode cX7_run 28 = .ok (.bipush 31, 2) := by decide +kernel
theorem dX7_run_3 : decode cX7_run 3 = .ok (.istore 4, 2) := by decide +kernel
theorem dX7_run_30 : decode cX7_run 30 = .ok (.iand, 1) := by decide +kernel
theorem dX7_run_31 : decode cX7_run 31 = .ok (.istore 5, 2) := by decide +kernel
theorem dX7_run_33 : decode cX7_run 33 = .ok (.iload 5, 2) := by decide +kernel
theorem dX7_run_35 : decode cX7_run 35 = .ok (.bipush 7, 2) := by decide +kernel
theorem dX7_run_37 : decode cX7_run 37 = .ok (.if_icmp .ge 38, 3) := by decide +kernel
theorem dX7_run_40 : decode cX7_run 40 = .ok (.iload_n 3, 1) := by decide +kernel
theorem dX7_run_41 : decode cX7_run 41 = .ok (.bipush 64, 2) := by decide +kernel
theorem dX7_run_43 : decode cX7_run 43 = .ok (.if_icmp .lt 5, 3) := by decide +kernel
theorem dX7_run_46 : decode cX7_run 46 = .ok (.iconst 0, 1) := by decide +kernel
theorem dX7_run_47 : decode cX7_run 47 = .ok (.ireturn, 1) := by decide +kernel
theorem dX7_run_48 : decode cX7_run 48 = .ok (.aload_n 0, 1) := by decide +kernel
theorem dX7_run_49 : decode cX7_run 49 = .ok (.getfield 34, 3) := by decide +kernel
theorem dX7_run_5 : decode cX7_run 5 = .ok (.iload 4, 2) := by decide +kernel
theorem dX7_run_52 : decode cX7_run 52 = .ok (.iload_n 3, 1) := by decide +kernel
theorem dX7_run_53 : decode cX7_run 53 = .ok (.aload_n 0, 1) := by decide +kernel
theorem dX7_run_54 : decode cX7_run 54 = .ok (.iload 5, 2) := by decide +kernel
theorem dX7_run_56 : decode cX7_run 56 = .ok (.aload_n 0, 1) := by decide +kernel
theorem dX7_run_57 : decode cX7_run 57 = .ok (.getfield 18, 3) := by decide +kernel
theorem dX7_run_60 : decode cX7_run 60 = .ok (.iload 4, 2) := by decide +kernel
theorem dX7_run_62 : decode cX7_run 62 = .ok (.iaload, 1) := by decide +kernel
theorem dX7_run_63 : decode cX7_run 63 = .ok (.iconst 5, 1) := by decide +kernel
theorem dX7_run_64 : decode cX7_run 64 = .ok (.ishr, 1) := by decide +kernel
theorem dX7_run_65 : decode cX7_run 65 = .ok (.invokevirtual 41, 3) := by decide +kernel
theorem dX7_run_68 : decode cX7_run 68 = .ok (.iastore, 1) := by decide +kernel
theorem dX7_run_69 : decode cX7_run 69 = .ok (.iinc 3 1, 3) := by decide +kernel
theorem dX7_run_7 : decode cX7_run 7 = .ok (.iload_n 2, 1) := by decide +kernel
theorem dX7_run_72 : decode cX7_run 72 = .ok (.goto 75, 3) := by decide +kernel
theorem dX7_run_75 : decode cX7_run 75 = .ok (.iload 5, 2) := by decide +kernel
theorem dX7_run_77 : decode cX7_run 77 = .ok (.bipush 7, 2) := by decide +kernel
theorem dX7_run_79 : decode cX7_run 79 = .ok (.if_icmp .ne 31, 3) := by decide +kernel
theorem dX7_run_8 : decode cX7_run 8 = .ok (.if_icmp .ge 145, 3) := by decide +kernel
theorem dX7_run_82 : decode cX7_run 82 = .ok (.iload_n 3, 1) := by decide +kernel
theorem dX7_run_83 : decode cX7_run 83 = .ok (.iconst 1, 1) := by decide +kernel
theorem dX7_run_84 : decode cX7_run 84 = .ok (.if_icmp .ge 5, 3) := by decide +kernel
theorem dX7_run_87 : decode cX7_run 87 = .ok (.iconst 0, 1) := by decide +kernel
theorem dX7_run_88 : decode cX7_run 88 = .ok (.ireturn, 1) := by decide +kernel
theorem dX7_run_89 : decode cX7_run 89 = .ok (.aload_n 0, 1) := by decide +kernel
theorem dX7_run_90 : decode cX7_run 90 = .ok (.getfield 34, 3) := by decide +kernel
theorem dX7_run_93 : decode cX7_run 93 = .ok (.iload_n 3, 1) := by decide +kernel
theorem dX7_run_94 : decode cX7_run 94 = .ok (.iconst 1, 1) := by decide +kernel
theorem dX7_run_95 : decode cX7_run 95 = .ok (.isub, 1) := by decide +kernel
theorem dX7_run_96 : decode cX7_run 96 = .ok (.iconst 1, 1) := by decide +kernel
theorem dX7_run_97 : decode cX7_run 97 = .ok (.aload_n 0, 1) := by decide +kernel
theorem dX7_run_98 : decode cX7_run 98 = .ok (.getfield 34, 3) := by decide +kernel
theorem dX8_exchangeAll_0 : decode cX8_exchangeAll 0 = .ok (.iconst 0, 1) := by decide +kernel
theorem dX8_exchangeAll_1 : decode cX8_exchangeAll 1 = .ok (.istore_n 1, 1) := by decide +kernel
theorem dX8_exchangeAll_12 : decode cX8_exchangeAll 12 = .ok (.ifCond .ne 5, 3) := by decide +kernel
theorem dX8_exchangeAll_15 : decode cX8_exchangeAll 15 = .ok (.iload_n 1, 1) := by decide +kernel
theorem dX8_exchangeAll_16 : decode cX8_exchangeAll 16 = .ok (.ireturn, 1) := by decide +kernel
theorem dX8_exchangeAll_17 : decode cX8_exchangeAll 17 = .ok (.iinc 1 1, 3) := by decide +kernel
theorem dX8_exchangeAll_2 : decode cX8_exchangeAll 2 = .ok (.iload_n 1, 1) := by decide +kernel
theorem dX8_exchangeAll_20 : decode cX8_exchangeAll 20 = .ok (.goto (-18), 3) := by decide +kernel
theorem dX8_exchangeAll_23 : decode cX8_exchangeAll 23 = .ok (.bipush 50, 2) := by decide +kernel
theorem dX8_exchangeAll_25 : decode cX8_exchangeAll 25 = .ok (.ireturn, 1) := by decide +kernel
theorem dX8_exchangeAll_3 : decode cX8_exchangeAll 3 = .ok (.bipush 50, 2) := by decide +kernel
theorem dX8_exchangeAll_5 : decode cX8_exchangeAll 5 = .ok (.if_icmp .ge 18, 3) := by decide +kernel
theorem dX8_exchangeAll_8 : decode cX8_exchangeAll 8 = .ok (.aload_n 0, 1) := by decide +kernel
theorem dX8_exchangeAll_9 : decode cX8_exchangeAll 9 = .ok (.invokevirtual 83, 3) := by decide +kernel
theorem dX8_exchangeFirst_0 : decode cX8_exchangeFirst 0 = .ok (.aload_n 0, 1) := by decide +kernel
theorem dX8_exchangeFirst_1 : decode cX8_exchangeFirst 1 = .ok (.invokevirtual 87, 3) := by decide +kernel
theorem dX8_exchangeFirst_101 : decode cX8_exchangeFirst 101 = .ok (.goto (-73), 3) := by decide +kernel
theorem dX8_exchangeFirst_104 : decode cX8_exchangeFirst 104 = .ok (.iinc 2 1, 3) := by decide +kernel
theorem dX8_exchangeFirst_107 : decode cX8_exchangeFirst 107 = .ok (.goto (-100), 3) := by decide +kernel
theorem dX8_exchangeFirst_110 : decode cX8_exchangeFirst 110 = .ok (.iconst 0, 1) := by decide +kernel
theorem dX8_exchangeFirst_111 : decode cX8_exchangeFirst 111 = .ok (.ireturn, 1) := by decide +kernel
theorem dX8_exchangeFirst_12 : decode cX8_exchangeFirst 12 = .ok (.getfield 22, 3) := by decide +kernel
theorem dX8_exchangeFirst_15 : decode cX8_exchangeFirst 15 = .ok (.getfield 46, 3) := by decide +kernel
theorem dX8_exchangeFirst_18 : decode cX8_exchangeFirst 18 = .ok (.getfield 50, 3) := by decide +kernel
theorem dX8_exchangeFirst_21 : decode cX8_exchangeFirst 21 = .ok (.if_icmp .ge 89, 3) := by decide +kernel
theorem dX8_exchangeFirst_24 : decode cX8_exchangeFirst 24 = .ok (.iload_n 2, 1) := by decide +kernel
theorem dX8_exchangeFirst_25 : decode cX8_exchangeFirst 25 = .ok (.iconst 1, 1) := by decide +kernel
theorem dX8_exchangeFirst_26 : decode cX8_exchangeFirst 26 = .ok (.iadd, 1) := by decide +kernel
theorem dX8_exchangeFirst_27 : decode cX8_exchangeFirst 27 = .ok (.istore_n 3, 1) := by decide +kernel
theorem dX8_exchangeFirst_28 : decode cX8_exchangeFirst 28 = .ok (.iload_n 3, 1) := by decide +kernel
theorem dX8_exchangeFirst_29 : decode cX8_exchangeFirst 29 = .ok (.aload_n 0, 1) := by decide +kernel
theorem dX8_exchangeFirst_30 : decode cX8_exchangeFirst 30 = .ok (.getfield 18, 3) := by decide +kernel
theorem dX8_exchangeFirst_33 : decode cX8_exchangeFirst 33 = .ok (.getfield 22, 3) := by decide +kernel
theorem dX8_exchangeFirst_36 : decode cX8_exchangeFirst 36 = .ok (.getfield 46, 3) := by decide +kernel
theorem dX8_exchangeFirst_39 : decode cX8_exchangeFirst 39 = .ok (.getfield 50, 3) := by decide +kernel
theorem dX8_exchangeFirst_4 : decode cX8_exchangeFirst 4 = .ok (.istore_n 1, 1) := by decide +kernel
theorem dX8_exchangeFirst_42 : decode cX8_exchangeFirst 42 = .ok (.if_icmp .ge 62, 3) := by decide +kernel
theorem dX8_exchangeFirst_45 : decode cX8_exchangeFirst 45 = .ok (.aload_n 0, 1) := by decide +kernel
theorem dX8_exchangeFirst_46 : decode cX8_exchangeFirst 46 = .ok (.iload_n 2, 1) := by decide +kernel
theorem dX8_exchangeFirst_47 : decode cX8_exchangeFirst 47 = .ok (.invokevirtual 91, 3) := by decide +kernel
theorem dX8_exchangeFirst_5 : decode cX8_exchangeFirst 5 = .ok (.iconst 0, 1) := by decide +kernel
theorem dX8_exchangeFirst_50 : decode cX8_exchangeFirst 50 = .ok (.ifCond .eq 48, 3) := by decide +kernel
theorem dX8_exchangeFirst_53 : decode cX8_exchangeFirst 53 = .ok (.aload_n 0, 1) := by decide +kernel
theorem dX8_exchangeFirst_54 : decode cX8_exchangeFirst 54 = .ok (.iload_n 3, 1) := by decide +kernel
theorem dX8_exchangeFirst_55 : decode cX8_exchangeFirst 55 = .ok (.invokevirtual 91, 3) := by decide +kernel
theorem dX8_exchangeFirst_58 : decode cX8_exchangeFirst 58 = .ok (.ifCond .eq 40, 3) := by decide +kernel
theorem dX8_exchangeFirst_6 : decode cX8_exchangeFirst 6 = .ok (.istore_n 2, 1) := by decide +kernel
theorem dX8_exchangeFirst_61 : decode cX8_exchangeFirst 61 = .ok (.aload_n 0, 1) := by decide +kernel
theorem dX8_exchangeFirst_62 : decode cX8_exchangeFirst 62 = .ok (.getfield 9, 3) := by decide +kernel
theorem dX8_exchangeFirst_65 : decode cX8_exchangeFirst 65 = .ok (.iload_n 2, 1) := by decide +kernel
theorem dX8_exchangeFirst_66 : decode cX8_exchangeFirst 66 = .ok (.iaload, 1) := by decide +kernel
theorem dX8_exchangeFirst_67 : decode cX8_exchangeFirst 67 = .ok (.aload_n 0, 1) := by decide +kernel
theorem dX8_exchangeFirst_68 : decode cX8_exchangeFirst 68 = .ok (.getfield 9, 3) := by decide +kernel
theorem dX8_exchangeFirst_7 : decode cX8_exchangeFirst 7 = .ok (.iload_n 2, 1) := by decide +kernel
theorem dX8_exchangeFirst_71 : decode cX8_exchangeFirst 71 = .ok (.iload_n 3, 1) := by decide +kernel
theorem dX8_exchangeFirst_72 : decode cX8_exchangeFirst 72 = .ok (.iaload, 1) := by decide +kernel
theorem dX8_exchangeFirst_73 : decode cX8_exchangeFirst 73 = .ok (.if_icmp .eq 25, 3) := by decide +kernel
theorem dX8_exchangeFirst_76 : decode cX8_exchangeFirst 76 = .ok (.aload_n 0, 1) := by decide +kernel
theorem dX8_exchangeFirst_77 : decode cX8_exchangeFirst 77 = .ok (.iload_n 2, 1) := by decide +kernel
theorem dX8_exchangeFirst_78 : decode cX8_exchangeFirst 78 = .ok (.iload_n 3, 1) := by decide +kernel
theorem dX8_exchangeFirst_79 : decode cX8_exchangeFirst 79 = .ok (.invokevirtual 95, 3) := by decide +kernel
theorem dX8_exchangeFirst_8 : decode cX8_exchangeFirst 8 = .ok (.aload_n 0, 1) := by decide +kernel
theorem dX8_exchangeFirst_82 : decode cX8_exchangeFirst 82 = .ok (.aload_n 0, 1) := by decide +kernel
theorem dX8_exchangeFirst_83 : decode cX8_exchangeFirst 83 = .ok (.invokevirtual 87, 3) := by decide +kernel
theorem dX8_exchangeFirst_86 : decode cX8_exchangeFirst 86 = .ok (.iload_n 1, 1) := by decide +kernel
theorem dX8_exchangeFirst_87 : decode cX8_exchangeFirst 87 = .ok (.if_icmp .le 5, 3) := by decide +kernel
theorem dX8_exchangeFirst_9 : decode cX8_exchangeFirst 9 = .ok (.getfield 18, 3) := by decide +kernel
theorem dX8_exchangeFirst_90 : decode cX8_exchangeFirst 90 = .ok (.iconst 1, 1) := by decide +kernel
theorem dX8_exchangeFirst_91 : decode cX8_exchangeFirst 91 = .ok (.ireturn, 1) := by decide +kernel
theorem dX8_exchangeFirst_92 : decode cX8_exchangeFirst 92 = .ok (.aload_n 0, 1) := by decide +kernel
theorem dX8_exchangeFirst_93 : decode cX8_exchangeFirst 93 = .ok (.iload_n 2, 1) := by decide +kernel
theorem dX8_exchangeFirst_94 : decode cX8_exchangeFirst 94 = .ok (.iload_n 3, 1) := by decide +kernel
theorem dX8_exchangeFirst_95 : decode cX8_exchangeFirst 95 = .ok (.invokevirtual 95, 3) := by decide +kernel
theorem dX8_exchangeFirst_98 : decode cX8_exchangeFirst 98 = .ok (.iinc 3 1, 3) := by decide +kernel
theorem dX8_exchange_0 : decode cX8_exchange 0 = .ok (.aload_n 0, 1) := by decide +kernel
theorem dX8_exchange_1 : decode cX8_exchange 1 = .ok (.getfield 9, 3) := by decide +kernel
theorem dX8_exchange_11 : decode cX8_exchange 11 = .ok (.iload_n 1, 1) := by decide +kernel
theorem dX8_exchange_12 : decode cX8_exchange 12 = .ok (.aload_n 0, 1) := by decide +kernel
theorem dX8_exchange_13 : decode cX8_exchange 13 = .ok (.getfield 9, 3) := by decide +kernel
theorem dX8_exchange_16 : decode cX8_exchange 16 = .ok (.iload_n 2, 1) := by decide +kernel
theorem dX8_exchange_17 : decode cX8_exchange 17 = .ok (.iaload, 1) := by decide +kernel
theorem dX8_exchange_18 : decode cX8_exchange 18 = .ok (.iastore, 1) := by decide +kernel
theorem dX8_exchange_19 : decode cX8_exchange 19 = .ok (.aload_n 0, 1) := by decide +kernel
theorem dX8_exchange_20 : decode cX8_exchange 20 = .ok (.getfield 9, 3) := by decide +kernel
theorem dX8_exchange_23 : decode cX8_exchange 23 = .ok (.iload_n 2, 1) := by decide +kernel
theorem dX8_exchange_24 : decode cX8_exchange 24 = .ok (.iload_n 3, 1) := by decide +kernel
theorem dX8_exchange_25 : decode cX8_exchange 25 = .ok (.iastore, 1) := by decide +kernel
theorem dX8_exchange_26 : decode cX8_exchange 26 = .ok (.return_, 1) := by decide +kernel
theorem dX8_exchange_4 : decode cX8_exchange 4 = .ok (.iload_n 1, 1) := by decide +kernel
theorem dX8_exchange_5 : decode cX8_exchange 5 = .ok (.iaload, 1) := by decide +kernel
theorem dX8_exchange_6 : decode cX8_exchange 6 = .ok (.istore_n 3, 1) := by decide +kernel
theorem dX8_exchange_7 : decode cX8_exchange 7 = .ok (.aload_n 0, 1) := by decide +kernel
theorem dX8_exchange_8 : decode cX8_exchange 8 = .ok (.getfield 9, 3) := by decide +kernel
theorem dX8_settleBest_0 : decode cX8_settleBest 0 = .ok (.iconst (-1), 1) := by decide +kernel
theorem dX8_settleBest_1 : decode cX8_settleBest 1 = .ok (.istore_n 2, 1) := by decide +kernel
theorem dX8_settleBest_10 : decode cX8_settleBest 10 = .ok (.getfield 18, 3) := by decide +kernel
theorem dX8_settleBest_100 : decode cX8_settleBest 100 = .ok (.getfield 9, 3) := by decide +kernel
theorem dX8_settleBest_103 : decode cX8_settleBest 103 = .ok (.iload_n 1, 1) := by decide +kernel
theorem dX8_settleBest_104 : decode cX8_settleBest 104 = .ok (.iload_n 2, 1) := by decide +kernel
theorem dX8_settleBest_105 : decode cX8_settleBest 105 = .ok (.iastore, 1) := by decide +kernel
theorem dX8_settleBest_106 : decode cX8_settleBest 106 = .ok (.return_, 1) := by decide +kernel
theorem dX8_settleBest_13 : decode cX8_settleBest 13 = .ok (.getfield 22, 3) := by decide +kernel
theorem dX8_settleBest_16 : decode cX8_settleBest 16 = .ok (.getfield 28, 3) := by decide +kernel
theorem dX8_settleBest_19 : decode cX8_settleBest 19 = .ok (.getfield 34, 3) := by decide +kernel
theorem dX8_settleBest_2 : decode cX8_settleBest 2 = .ok (.iconst 0, 1) := by decide +kernel
theorem dX8_settleBest_22 : decode cX8_settleBest 22 = .ok (.if_icmp .ge 62, 3) := by decide +kernel
theorem dX8_settleBest_25 : decode cX8_settleBest 25 = .ok (.aload_n 0, 1) := by decide +kernel
theorem dX8_settleBest_26 : decode cX8_settleBest 26 = .ok (.getfield 15, 3) := by decide +kernel
theorem dX8_settleBest_29 : decode cX8_settleBest 29 = .ok (.iload 4, 2) := by decide +kernel
theorem dX8_settleBest_3 : decode cX8_settleBest 3 = .ok (.istore_n 3, 1) := by decide +kernel
theorem dX8_settleBest_31 : decode cX8_settleBest 31 = .ok (.iaload, 1) := by decide +kernel
theorem dX8_settleBest_32 : decode cX8_settleBest 32 = .ok (.ifCond .le 46, 3) := by decide +kernel
theorem dX8_settleBest_35 : decode cX8_settleBest 35 = .ok (.aload_n 0, 1) := by decide +kernel
theorem dX8_settleBest_36 : decode cX8_settleBest 36 = .ok (.iload_n 1, 1) := by decide +kernel
theorem dX8_settleBest_37 : decode cX8_settleBest 37 = .ok (.iload 4, 2) := by decide +kernel
theorem dX8_settleBest_39 : decode cX8_settleBest 39 = .ok (.invokevirtual 64, 3) := by decide +kernel
theorem dX8_settleBest_4 : decode cX8_settleBest 4 = .ok (.iconst 0, 1) := by decide +kernel
theorem dX8_settleBest_42 : decode cX8_settleBest 42 = .ok (.aload_n 0, 1) := by decide +kernel
theorem dX8_settleBest_43 : decode cX8_settleBest 43 = .ok (.getfield 18, 3) := by decide +kernel
theorem dX8_settleBest_46 : decode cX8_settleBest 46 = .ok (.getfield 22, 3) := by decide +kernel
theorem dX8_settleBest_49 : decode cX8_settleBest 49 = .ok (.getfield 28, 3) := by decide +kernel
theorem dX8_settleBest_5 : decode cX8_settleBest 5 = .ok (.istore 4, 2) := by decide +kernel
theorem dX8_settleBest_52 : decode cX8_settleBest 52 = .ok (.getfield 68, 3) := by decide +kernel
theorem dX8_settleBest_55 : decode cX8_settleBest 55 = .ok (.iload 4, 2) := by decide +kernel
theorem dX8_settleBest_57 : decode cX8_settleBest 57 = .ok (.iaload, 1) := by decide +kernel
theorem dX8_settleBest_58 : decode cX8_settleBest 58 = .ok (.isub, 1) := by decide +kernel
theorem dX8_settleBest_59 : decode cX8_settleBest 59 = .ok (.istore 5, 2) := by decide +kernel
theorem dX8_settleBest_61 : decode cX8_settleBest 61 = .ok (.iload_n 2, 1) := by decide +kernel
theorem dX8_settleBest_62 : decode cX8_settleBest 62 = .ok (.iconst (-1), 1) := by decide +kernel
theorem dX8_settleBest_63 : decode cX8_settleBest 63 = .ok (.if_icmp .eq 9, 3) := by decide +kernel
theorem dX8_settleBest_66 : decode cX8_settleBest 66 = .ok (.iload 5, 2) := by decide +kernel
theorem dX8_settleBest_68 : decode cX8_settleBest 68 = .ok (.iload_n 3, 1) := by decide +kernel
theorem dX8_settleBest_69 : decode cX8_settleBest 69 = .ok (.if_icmp .le 9, 3) := by decide +kernel
theorem dX8_settleBest_7 : decode cX8_settleBest 7 = .ok (.iload 4, 2) := by decide +kernel
theorem dX8_settleBest_72 : decode cX8_settleBest 72 = .ok (.iload 4, 2) := by decide +kernel
theorem dX8_settleBest_74 : decode cX8_settleBest 74 = .ok (.istore_n 2, 1) := by decide +kernel
theorem dX8_settleBest_75 : decode cX8_settleBest 75 = .ok (.iload 5, 2) := by decide +kernel
theorem dX8_settleBest_77 : decode cX8_settleBest 77 = .ok (.istore_n 3, 1) := by decide +kernel
theorem dX8_settleBest_78 : decode cX8_settleBest 78 = .ok (.iinc 4 1, 3) := by decide +kernel
theorem dX8_settleBest_81 : decode cX8_settleBest 81 = .ok (.goto (-74), 3) := by decide +kernel
theorem dX8_settleBest_84 : decode cX8_settleBest 84 = .ok (.iload_n 2, 1) := by decide +kernel
theorem dX8_settleBest_85 : decode cX8_settleBest 85 = .ok (.iconst (-1), 1) := by decide +kernel
theorem dX8_settleBest_86 : decode cX8_settleBest 86 = .ok (.if_icmp .eq 20, 3) := by decide +kernel
theorem dX8_settleBest_89 : decode cX8_settleBest 89 = .ok (.aload_n 0, 1) := by decide +kernel
theorem dX8_settleBest_9 : decode cX8_settleBest 9 = .ok (.aload_n 0, 1) := by decide +kernel
theorem dX8_settleBest_90 : decode cX8_settleBest 90 = .ok (.getfield 15, 3) := by decide +kernel
theorem dX8_settleBest_93 : decode cX8_settleBest 93 = .ok (.iload_n 2, 1) := by decide +kernel
theorem dX8_settleBest_94 : decode cX8_settleBest 94 = .ok (.dup2, 1) := by decide +kernel
theorem dX8_settleBest_95 : decode cX8_settleBest 95 = .ok (.iaload, 1) := by decide +kernel
theorem dX8_settleBest_96 : decode cX8_settleBest 96 = .ok (.iconst 1, 1) := by decide +kernel
theorem dX8_settleBest_97 : decode cX8_settleBest 97 = .ok (.isub, 1) := by decide +kernel
theorem dX8_settleBest_98 : decode cX8_settleBest 98 = .ok (.iastore, 1) := by decide +kernel
theorem dX8_settleBest_99 : decode cX8_settleBest 99 = .ok (.aload_n 0, 1) := by decide +kernel
theorem dX8_settle_0 : decode cX8_settle 0 = .ok (.aload_n 0, 1) := by decide +kernel
theorem dX8_settle_1 : decode cX8_settle 1 = .ok (.getfield 18, 3) := by decide +kernel
theorem dX8_settle_10 : decode cX8_settle 10 = .ok (.iload_n 3, 1) := by decide +kernel
theorem dX8_settle_102 : decode cX8_settle 102 = .ok (.iconst 0, 1) := by decide +kernel
theorem dX8_settle_103 : decode cX8_settle 103 = .ok (.istore_n 3, 1) := by decide +kernel
theorem dX8_settle_104 : decode cX8_settle 104 = .ok (.iload_n 3, 1) := by decide +kernel
theorem dX8_settle_105 : decode cX8_settle 105 = .ok (.aload_n 2, 1) := by decide +kernel
theorem dX8_settle_106 : decode cX8_settle 106 = .ok (.getfield 46, 3) := by decide +kernel
theorem dX8_settle_109 : decode cX8_settle 109 = .ok (.getfield 50, 3) := by decide +kernel
theorem dX8_settle_11 : decode cX8_settle 11 = .ok (.aload_n 2, 1) := by decide +kernel
theorem dX8_settle_112 : decode cX8_settle 112 = .ok (.if_icmp .ge 39, 3) := by decide +kernel
theorem dX8_settle_115 : decode cX8_settle 115 = .ok (.aload_n 0, 1) := by decide +kernel
theorem dX8_settle_116 : decode cX8_settle 116 = .ok (.getfield 18, 3) := by decide +kernel
theorem dX8_settle_119 : decode cX8_settle 119 = .ok (.iload_n 3, 1) := by decide +kernel
theorem dX8_settle_12 : decode cX8_settle 12 = .ok (.getfield 28, 3) := by decide +kernel
theorem dX8_settle_120 : decode cX8_settle 120 = .ok (.iload_n 1, 1) := by decide +kernel
theorem dX8_settle_121 : decode cX8_settle 121 = .ok (.invokevirtual 53, 3) := by decide +kernel
theorem dX8_settle_124 : decode cX8_settle 124 = .ok (.ifCond .eq 21, 3) := by decide +kernel
theorem dX8_settle_127 : decode cX8_settle 127 = .ok (.aload_n 2, 1) := by decide +kernel
theorem dX8_settle_128 : decode cX8_settle 128 = .ok (.getfield 46, 3) := by decide +kernel
theorem dX8_settle_131 : decode cX8_settle 131 = .ok (.getfield 57, 3) := by decide +kernel
theorem dX8_settle_134 : decode cX8_settle 134 = .ok (.iload_n 3, 1) := by decide +kernel
theorem dX8_settle_135 : decode cX8_settle 135 = .ok (.iaload, 1) := by decide +kernel
theorem dX8_settle_136 : decode cX8_settle 136 = .ok (.iconst (-1), 1) := by decide +kernel
theorem dX8_settle_137 : decode cX8_settle 137 = .ok (.if_icmp .ne 8, 3) := by decide +kernel
theorem dX8_settle_140 : decode cX8_settle 140 = .ok (.aload_n 0, 1) := by decide +kernel
theorem dX8_settle_141 : decode cX8_settle 141 = .ok (.iload_n 3, 1) := by decide +kernel
theorem dX8_settle_142 : decode cX8_settle 142 = .ok (.invokevirtual 60, 3) := by decide +kernel
theorem dX8_settle_145 : decode cX8_settle 145 = .ok (.iinc 3 1, 3) := by decide +kernel
theorem dX8_settle_148 : decode cX8_settle 148 = .ok (.goto (-44), 3) := by decide +kernel
theorem dX8_settle_15 : decode cX8_settle 15 = .ok (.getfield 34, 3) := by decide +kernel
theorem dX8_settle_151 : decode cX8_settle 151 = .ok (.return_, 1) := by decide +kernel
theorem dX8_settle_18 : decode cX8_settle 18 = .ok (.if_icmp .ge 34, 3) := by decide +kernel
theorem dX8_settle_21 : decode cX8_settle 21 = .ok (.aload_n 0, 1) := by decide +kernel
theorem dX8_settle_22 : decode cX8_settle 22 = .ok (.getfield 15, 3) := by decide +kernel
theorem dX8_settle_25 : decode cX8_settle 25 = .ok (.iload_n 3, 1) := by decide +kernel
theorem dX8_settle_26 : decode cX8_settle 26 = .ok (.aload_n 2, 1) := by decide +kernel
theorem dX8_settle_27 : decode cX8_settle 27 = .ok (.getfield 28, 3) := by decide +kernel
theorem dX8_settle_30 : decode cX8_settle 30 = .ok (.getfield 40, 3) := by decide +kernel
theorem dX8_settle_33 : decode cX8_settle 33 = .ok (.iload_n 3, 1) := by decide +kernel
theorem dX8_settle_34 : decode cX8_settle 34 = .ok (.iaload, 1) := by decide +kernel
theorem dX8_settle_35 : decode cX8_settle 35 = .ok (.aload_n 2, 1) := by decide +kernel
theorem dX8_settle_36 : decode cX8_settle 36 = .ok (.getfield 28, 3) := by decide +kernel
theorem dX8_settle_39 : decode cX8_settle 39 = .ok (.getfield 43, 3) := by decide +kernel
theorem dX8_settle_4 : decode cX8_settle 4 = .ok (.getfield 22, 3) := by decide +kernel
theorem dX8_settle_42 : decode cX8_settle 42 = .ok (.iload_n 3, 1) := by decide +kernel
theorem dX8_settle_43 : decode cX8_settle 43 = .ok (.iaload, 1) := by decide +kernel
theorem dX8_settle_44 : decode cX8_settle 44 = .ok (.isub, 1) := by decide +kernel
theorem dX8_settle_45 : decode cX8_settle 45 = .ok (.iastore, 1) := by decide +kernel
theorem dX8_settle_46 : decode cX8_settle 46 = .ok (.iinc 3 1, 3) := by decide +kernel
theorem dX8_settle_49 : decode cX8_settle 49 = .ok (.goto (-39), 3) := by decide +kernel
theorem dX8_settle_52 : decode cX8_settle 52 = .ok (.iconst 0, 1) := by decide +kernel
theorem dX8_settle_53 : decode cX8_settle 53 = .ok (.istore_n 3, 1) := by decide +kernel
theorem dX8_settle_54 : decode cX8_settle 54 = .ok (.iload_n 3, 1) := by decide +kernel
theorem dX8_settle_55 : decode cX8_settle 55 = .ok (.aload_n 2, 1) := by decide +kernel
theorem dX8_settle_56 : decode cX8_settle 56 = .ok (.getfield 46, 3) := by decide +kernel
theorem dX8_settle_59 : decode cX8_settle 59 = .ok (.getfield 50, 3) := by decide +kernel
theorem dX8_settle_62 : decode cX8_settle 62 = .ok (.if_icmp .ge 40, 3) := by decide +kernel
theorem dX8_settle_65 : decode cX8_settle 65 = .ok (.aload_n 0, 1) := by decide +kernel
theorem dX8_settle_66 : decode cX8_settle 66 = .ok (.getfield 9, 3) := by decide +kernel
theorem dX8_settle_69 : decode cX8_settle 69 = .ok (.iload_n 3, 1) := by decide +kernel
theorem dX8_settle_7 : decode cX8_settle 7 = .ok (.astore_n 2, 1) := by decide +kernel
theorem dX8_settle_70 : decode cX8_settle 70 = .ok (.aload_n 0, 1) := by decide +kernel
theorem dX8_settle_71 : decode cX8_settle 71 = .ok (.getfield 18, 3) := by decide +kernel
theorem dX8_settle_74 : decode cX8_settle 74 = .ok (.iload_n 3, 1) := by decide +kernel
theorem dX8_settle_75 : decode cX8_settle 75 = .ok (.iload_n 1, 1) := by decide +kernel
theorem dX8_settle_76 : decode cX8_settle 76 = .ok (.invokevirtual 53, 3) := by decide +kernel
theorem dX8_settle_79 : decode cX8_settle 79 = .ok (.ifCond .eq 15, 3) := by decide +kernel
theorem dX8_settle_8 : decode cX8_settle 8 = .ok (.iconst 0, 1) := by decide +kernel
theorem dX8_settle_82 : decode cX8_settle 82 = .ok (.aload_n 2, 1) := by decide +kernel
theorem dX8_settle_83 : decode cX8_settle 83 = .ok (.getfield 46, 3) := by decide +kernel
theorem dX8_settle_86 : decode cX8_settle 86 = .ok (.getfield 57, 3) := by decide +kernel
theorem dX8_settle_89 : decode cX8_settle 89 = .ok (.iload_n 3, 1) := by decide +kernel
theorem dX8_settle_9 : decode cX8_settle 9 = .ok (.istore_n 3, 1) := by decide +kernel
theorem dX8_settle_90 : decode cX8_settle 90 = .ok (.iaload, 1) := by decide +kernel
theorem dX8_settle_91 : decode cX8_settle 91 = .ok (.goto 4, 3) := by decide +kernel
theorem dX8_settle_94 : decode cX8_settle 94 = .ok (.iconst (-1), 1) := by decide +kernel
theorem dX8_settle_95 : decode cX8_settle 95 = .ok (.iastore, 1) := by decide +kernel
theorem dX8_settle_96 : decode cX8_settle 96 = .ok (.iinc 3 1, 3) := by decide +kernel
theorem dX8_settle_99 : decode cX8_settle 99 = .ok (.goto (-45), 3) := by decide +kernel
theorem dX9_bestOfTwo_0 : decode cX9_bestOfTwo 0 = .ok (.aload_n 0, 1) := by decide +kernel
theorem dX9_bestOfTwo_1 : decode cX9_bestOfTwo 1 = .ok (.getfield 25, 3) := by decide +kernel
theorem dX9_bestOfTwo_10 : decode cX9_bestOfTwo 10 = .ok (.astore_n 3, 1) := by decide +kernel
theorem dX9_bestOfTwo_101 : decode cX9_bestOfTwo 101 = .ok (.imul, 1) := by decide +kernel
theorem dX9_bestOfTwo_102 : decode cX9_bestOfTwo 102 = .ok (.iload 8, 2) := by decide +kernel
theorem dX9_bestOfTwo_104 : decode cX9_bestOfTwo 104 = .ok (.iadd, 1) := by decide +kernel
theorem dX9_bestOfTwo_105 : decode cX9_bestOfTwo 105 = .ok (.iaload, 1) := by decide +kernel
theorem dX9_bestOfTwo_106 : decode cX9_bestOfTwo 106 = .ok (.iastore, 1) := by decide +kernel
theorem dX9_bestOfTwo_107 : decode cX9_bestOfTwo 107 = .ok (.aload_n 0, 1) := by decide +kernel
theorem dX9_bestOfTwo_108 : decode cX9_bestOfTwo 108 = .ok (.getfield 25, 3) := by decide +kernel
theorem dX9_bestOfTwo_11 : decode cX9_bestOfTwo 11 = .ok (.aload_n 0, 1) := by decide +kernel
theorem dX9_bestOfTwo_111 : decode cX9_bestOfTwo 111 = .ok (.invokevirtual 99, 3) := by decide +kernel
theorem dX9_bestOfTwo_114 : decode cX9_bestOfTwo 114 = .ok (.ifCond .eq 13, 3) := by decide +kernel
theorem dX9_bestOfTwo_117 : decode cX9_bestOfTwo 117 = .ok (.aload_n 0, 1) := by decide +kernel
theorem dX9_bestOfTwo_118 : decode cX9_bestOfTwo 118 = .ok (.getfield 25, 3) := by decide +kernel
theorem dX9_bestOfTwo_12 : decode cX9_bestOfTwo 12 = .ok (.getfield 25, 3) := by decide +kernel
theorem dX9_bestOfTwo_121 : decode cX9_bestOfTwo 121 = .ok (.invokevirtual 95, 3) := by decide +kernel
theorem dX9_bestOfTwo_124 : decode cX9_bestOfTwo 124 = .ok (.goto 5, 3) := by decide +kernel
theorem dX9_bestOfTwo_127 : decode cX9_bestOfTwo 127 = .ok (.ldc 103, 2) := by decide +kernel
theorem dX9_bestOfTwo_129 : decode cX9_bestOfTwo 129 = .ok (.istore 9, 2) := by decide +kernel
theorem dX9_bestOfTwo_131 : decode cX9_bestOfTwo 131 = .ok (.iload 9, 2) := by decide +kernel
theorem dX9_bestOfTwo_133 : decode cX9_bestOfTwo 133 = .ok (.iload 6, 2) := by decide +kernel
theorem dX9_bestOfTwo_135 : decode cX9_bestOfTwo 135 = .ok (.if_icmp .le 29, 3) := by decide +kernel
theorem dX9_bestOfTwo_138 : decode cX9_bestOfTwo 138 = .ok (.iload 9, 2) := by decide +kernel
theorem dX9_bestOfTwo_140 : decode cX9_bestOfTwo 140 = .ok (.istore 6, 2) := by decide +kernel
theorem dX9_bestOfTwo_142 : decode cX9_bestOfTwo 142 = .ok (.aload_n 0, 1) := by decide +kernel
theorem dX9_bestOfTwo_143 : decode cX9_bestOfTwo 143 = .ok (.getfield 25, 3) := by decide +kernel
theorem dX9_bestOfTwo_146 : decode cX9_bestOfTwo 146 = .ok (.getfield 84, 3) := by decide +kernel
theorem dX9_bestOfTwo_149 : decode cX9_bestOfTwo 149 = .ok (.iload_n 1, 1) := by decide +kernel
theorem dX9_bestOfTwo_15 : decode cX9_bestOfTwo 15 = .ok (.getfield 84, 3) := by decide +kernel
theorem dX9_bestOfTwo_150 : decode cX9_bestOfTwo 150 = .ok (.iaload, 1) := by decide +kernel
theorem dX9_bestOfTwo_151 : decode cX9_bestOfTwo 151 = .ok (.istore 4, 2) := by decide +kernel
theorem dX9_bestOfTwo_153 : decode cX9_bestOfTwo 153 = .ok (.aload_n 0, 1) := by decide +kernel
theorem dX9_bestOfTwo_154 : decode cX9_bestOfTwo 154 = .ok (.getfield 25, 3) := by decide +kernel
theorem dX9_bestOfTwo_157 : decode cX9_bestOfTwo 157 = .ok (.getfield 84, 3) := by decide +kernel
theorem dX9_bestOfTwo_160 : decode cX9_bestOfTwo 160 = .ok (.iload_n 2, 1) := by decide +kernel
theorem dX9_bestOfTwo_161 : decode cX9_bestOfTwo 161 = .ok (.iaload, 1) := by decide +kernel
theorem dX9_bestOfTwo_162 : decode cX9_bestOfTwo 162 = .ok (.istore 5, 2) := by decide +kernel
theorem dX9_bestOfTwo_164 : decode cX9_bestOfTwo 164 = .ok (.iinc 8 1, 3) := by decide +kernel
theorem dX9_bestOfTwo_167 : decode cX9_bestOfTwo 167 = .ok (.goto (-92), 3) := by decide +kernel
theorem dX9_bestOfTwo_170 : decode cX9_bestOfTwo 170 = .ok (.iinc 7 1, 3) := by decide +kernel
theorem dX9_bestOfTwo_173 : decode cX9_bestOfTwo 173 = .ok (.goto (-133), 3) := by decide +kernel
theorem dX9_bestOfTwo_176 : decode cX9_bestOfTwo 176 = .ok (.aload_n 0, 1) := by decide +kernel
theorem dX9_bestOfTwo_177 : decode cX9_bestOfTwo 177 = .ok (.getfield 25, 3) := by decide +kernel
theorem dX9_bestOfTwo_18 : decode cX9_bestOfTwo 18 = .ok (.iload_n 1, 1) := by decide +kernel
theorem dX9_bestOfTwo_180 : decode cX9_bestOfTwo 180 = .ok (.getfield 84, 3) := by decide +kernel
theorem dX9_bestOfTwo_183 : decode cX9_bestOfTwo 183 = .ok (.iload_n 1, 1) := by decide +kernel
theorem dX9_bestOfTwo_184 : decode cX9_bestOfTwo 184 = .ok (.iload 4, 2) := by decide +kernel
theorem dX9_bestOfTwo_186 : decode cX9_bestOfTwo 186 = .ok (.iastore, 1) := by decide +kernel
theorem dX9_bestOfTwo_187 : decode cX9_bestOfTwo 187 = .ok (.aload_n 0, 1) := by decide +kernel
theorem dX9_bestOfTwo_188 : decode cX9_bestOfTwo 188 = .ok (.getfield 25, 3) := by decide +kernel
theorem dX9_bestOfTwo_19 : decode cX9_bestOfTwo 19 = .ok (.iaload, 1) := by decide +kernel
theorem dX9_bestOfTwo_191 : decode cX9_bestOfTwo 191 = .ok (.getfield 84, 3) := by decide +kernel
theorem dX9_bestOfTwo_194 : decode cX9_bestOfTwo 194 = .ok (.iload_n 2, 1) := by decide +kernel
theorem dX9_bestOfTwo_195 : decode cX9_bestOfTwo 195 = .ok (.iload 5, 2) := by decide +kernel
theorem dX9_bestOfTwo_197 : decode cX9_bestOfTwo 197 = .ok (.iastore, 1) := by decide +kernel
theorem dX9_bestOfTwo_198 : decode cX9_bestOfTwo 198 = .ok (.iload 6, 2) := by decide +kernel
theorem dX9_bestOfTwo_20 : decode cX9_bestOfTwo 20 = .ok (.istore 4, 2) := by decide +kernel
theorem dX9_bestOfTwo_200 : decode cX9_bestOfTwo 200 = .ok (.ireturn, 1) := by decide +kernel
theorem dX9_bestOfTwo_22 : decode cX9_bestOfTwo 22 = .ok (.aload_n 0, 1) := by decide +kernel
theorem dX9_bestOfTwo_23 : decode cX9_bestOfTwo 23 = .ok (.getfield 25, 3) := by decide +kernel
theorem dX9_bestOfTwo_26 : decode cX9_bestOfTwo 26 = .ok (.getfield 84, 3) := by decide +kernel
theorem dX9_bestOfTwo_29 : decode cX9_bestOfTwo 29 = .ok (.iload_n 2, 1) := by decide +kernel
theorem dX9_bestOfTwo_30 : decode cX9_bestOfTwo 30 = .ok (.iaload, 1) := by decide +kernel
theorem dX9_bestOfTwo_31 : decode cX9_bestOfTwo 31 = .ok (.istore 5, 2) := by decide +kernel
theorem dX9_bestOfTwo_33 : decode cX9_bestOfTwo 33 = .ok (.ldc 103, 2) := by decide +kernel
theorem dX9_bestOfTwo_35 : decode cX9_bestOfTwo 35 = .ok (.istore 6, 2) := by decide +kernel
theorem dX9_bestOfTwo_37 : decode cX9_bestOfTwo 37 = .ok (.iconst 0, 1) := by decide +kernel
theorem dX9_bestOfTwo_38 : decode cX9_bestOfTwo 38 = .ok (.istore 7, 2) := by decide +kernel
theorem dX9_bestOfTwo_4 : decode cX9_bestOfTwo 4 = .ok (.getfield 29, 3) := by decide +kernel
theorem dX9_bestOfTwo_40 : decode cX9_bestOfTwo 40 = .ok (.iload 7, 2) := by decide +kernel
theorem dX9_bestOfTwo_42 : decode cX9_bestOfTwo 42 = .ok (.aload_n 3, 1) := by decide +kernel
theorem dX9_bestOfTwo_43 : decode cX9_bestOfTwo 43 = .ok (.getfield 53, 3) := by decide +kernel
theorem dX9_bestOfTwo_46 : decode cX9_bestOfTwo 46 = .ok (.iload_n 1, 1) := by decide +kernel
theorem dX9_bestOfTwo_47 : decode cX9_bestOfTwo 47 = .ok (.iaload, 1) := by decide +kernel
theorem dX9_bestOfTwo_48 : decode cX9_bestOfTwo 48 = .ok (.if_icmp .ge 128, 3) := by decide +kernel
theorem dX9_bestOfTwo_51 : decode cX9_bestOfTwo 51 = .ok (.aload_n 0, 1) := by decide +kernel
theorem dX9_bestOfTwo_52 : decode cX9_bestOfTwo 52 = .ok (.getfield 25, 3) := by decide +kernel
theorem dX9_bestOfTwo_55 : decode cX9_bestOfTwo 55 = .ok (.getfield 84, 3) := by decide +kernel
theorem dX9_bestOfTwo_58 : decode cX9_bestOfTwo 58 = .ok (.iload_n 1, 1) := by decide +kernel
theorem dX9_bestOfTwo_59 : decode cX9_bestOfTwo 59 = .ok (.aload_n 3, 1) := by decide +kernel
theorem dX9_bestOfTwo_60 : decode cX9_bestOfTwo 60 = .ok (.getfield 60, 3) := by decide +kernel
theorem dX9_bestOfTwo_63 : decode cX9_bestOfTwo 63 = .ok (.iload_n 1, 1) := by decide +kernel
theorem dX9_bestOfTwo_64 : decode cX9_bestOfTwo 64 = .ok (.bipush 10, 2) := by decide +kernel
theorem dX9_bestOfTwo_66 : decode cX9_bestOfTwo 66 = .ok (.imul, 1) := by decide +kernel
theorem dX9_bestOfTwo_67 : decode cX9_bestOfTwo 67 = .ok (.iload 7, 2) := by decide +kernel
theorem dX9_bestOfTwo_69 : decode cX9_bestOfTwo 69 = .ok (.iadd, 1) := by decide +kernel
theorem dX9_bestOfTwo_7 : decode cX9_bestOfTwo 7 = .ok (.getfield 35, 3) := by decide +kernel
theorem dX9_bestOfTwo_70 : decode cX9_bestOfTwo 70 = .ok (.iaload, 1) := by decide +kernel
theorem dX9_bestOfTwo_71 : decode cX9_bestOfTwo 71 = .ok (.iastore, 1) := by decide +kernel
theorem dX9_bestOfTwo_72 : decode cX9_bestOfTwo 72 = .ok (.iconst 0, 1) := by decide +kernel
theorem dX9_bestOfTwo_73 : decode cX9_bestOfTwo 73 = .ok (.istore 8, 2) := by decide +kernel
theorem dX9_bestOfTwo_75 : decode cX9_bestOfTwo 75 = .ok (.iload 8, 2) := by decide +kernel
theorem dX9_bestOfTwo_77 : decode cX9_bestOfTwo 77 = .ok (.aload_n 3, 1) := by decide +kernel
theorem dX9_bestOfTwo_78 : decode cX9_bestOfTwo 78 = .ok (.getfield 53, 3) := by decide +kernel
theorem dX9_bestOfTwo_81 : decode cX9_bestOfTwo 81 = .ok (.iload_n 2, 1) := by decide +kernel
theorem dX9_bestOfTwo_82 : decode cX9_bestOfTwo 82 = .ok (.iaload, 1) := by decide +kernel
theorem dX9_bestOfTwo_83 : decode cX9_bestOfTwo 83 = .ok (.if_icmp .ge 87, 3) := by decide +kernel
theorem dX9_bestOfTwo_86 : decode cX9_bestOfTwo 86 = .ok (.aload_n 0, 1) := by decide +kernel
theorem dX9_bestOfTwo_87 : decode cX9_bestOfTwo 87 = .ok (.getfield 25, 3) := by decide +kernel
theorem dX9_bestOfTwo_90 : decode cX9_bestOfTwo 90 = .ok (.getfield 84, 3) := by decide +kernel
theorem dX9_bestOfTwo_93 : decode cX9_bestOfTwo 93 = .ok (.iload_n 2, 1) := by decide +kernel
theorem dX9_bestOfTwo_94 : decode cX9_bestOfTwo 94 = .ok (.aload_n 3, 1) := by decide +kernel
theorem dX9_bestOfTwo_95 : decode cX9_bestOfTwo 95 = .ok (.getfield 60, 3) := by decide +kernel
theorem dX9_bestOfTwo_98 : decode cX9_bestOfTwo 98 = .ok (.iload_n 2, 1) := by decide +kernel
theorem dX9_bestOfTwo_99 : decode cX9_bestOfTwo 99 = .ok (.bipush 10, 2) := by decide +kernel
theorem dX9_exchange_0 : decode cX9_exchange 0 = .ok (.aload_n 0, 1) := by decide +kernel
theorem dX9_exchange_1 : decode cX9_exchange 1 = .ok (.getfield 25, 3) := by decide +kernel
theorem dX9_exchange_10 : decode cX9_exchange 10 = .ok (.aload_n 0, 1) := by decide +kernel
theorem dX9_exchange_11 : decode cX9_exchange 11 = .ok (.getfield 25, 3) := by decide +kernel
theorem dX9_exchange_14 : decode cX9_exchange 14 = .ok (.getfield 84, 3) := by decide +kernel
theorem dX9_exchange_17 : decode cX9_exchange 17 = .ok (.iload_n 1, 1) := by decide +kernel
theorem dX9_exchange_18 : decode cX9_exchange 18 = .ok (.aload_n 0, 1) := by decide +kernel
theorem dX9_exchange_19 : decode cX9_exchange 19 = .ok (.getfield 25, 3) := by decide +kernel
theorem dX9_exchange_22 : decode cX9_exchange 22 = .ok (.getfield 84, 3) := by decide +kernel
theorem dX9_exchange_25 : decode cX9_exchange 25 = .ok (.iload_n 2, 1) := by decide +kernel
theorem dX9_exchange_26 : decode cX9_exchange 26 = .ok (.iaload, 1) := by decide +kernel
theorem dX9_exchange_27 : decode cX9_exchange 27 = .ok (.iastore, 1) := by decide +kernel
theorem dX9_exchange_28 : decode cX9_exchange 28 = .ok (.aload_n 0, 1) := by decide +kernel
theorem dX9_exchange_29 : decode cX9_exchange 29 = .ok (.getfield 25, 3) := by decide +kernel
theorem dX9_exchange_32 : decode cX9_exchange 32 = .ok (.getfield 84, 3) := by decide +kernel
theorem dX9_exchange_35 : decode cX9_exchange 35 = .ok (.iload_n 2, 1) := by decide +kernel
theorem dX9_exchange_36 : decode cX9_exchange 36 = .ok (.iload_n 3, 1) := by decide +kernel
theorem dX9_exchange_37 : decode cX9_exchange 37 = .ok (.iastore, 1) := by decide +kernel
theorem dX9_exchange_38 : decode cX9_exchange 38 = .ok (.return_, 1) := by decide +kernel
theorem dX9_exchange_4 : decode cX9_exchange 4 = .ok (.getfield 84, 3) := by decide +kernel
theorem dX9_exchange_7 : decode cX9_exchange 7 = .ok (.iload_n 1, 1) := by decide +kernel
theorem dX9_exchange_8 : decode cX9_exchange 8 = .ok (.iaload, 1) := by decide +kernel
theorem dX9_exchange_9 : decode cX9_exchange 9 = .ok (.istore_n 3, 1) := by decide +kernel
theorem dX9_fewestDesks_0 : decode cX9_fewestDesks 0 = .ok (.iconst 0, 1) := by decide +kernel
theorem dX9_fewestDesks_1 : decode cX9_fewestDesks 1 = .ok (.istore_n 1, 1) := by decide +kernel
theorem dX9_fewestDesks_10 : decode cX9_fewestDesks 10 = .ok (.invokevirtual 91, 3) := by decide +kernel
theorem dX9_fewestDesks_13 : decode cX9_fewestDesks 13 = .ok (.istore_n 2, 1) := by decide +kernel
theorem dX9_fewestDesks_14 : decode cX9_fewestDesks 14 = .ok (.iload_n 2, 1) := by decide +kernel
theorem dX9_fewestDesks_15 : decode cX9_fewestDesks 15 = .ok (.iconst 1, 1) := by decide +kernel
theorem dX9_fewestDesks_16 : decode cX9_fewestDesks 16 = .ok (.if_icmp .ne 5, 3) := by decide +kernel
theorem dX9_fewestDesks_19 : decode cX9_fewestDesks 19 = .ok (.iload_n 1, 1) := by decide +kernel
theorem dX9_fewestDesks_2 : decode cX9_fewestDesks 2 = .ok (.iload_n 1, 1) := by decide +kernel
theorem dX9_fewestDesks_20 : decode cX9_fewestDesks 20 = .ok (.ireturn, 1) := by decide +kernel
theorem dX9_fewestDesks_21 : decode cX9_fewestDesks 21 = .ok (.iload_n 2, 1) := by decide +kernel
theorem dX9_fewestDesks_22 : decode cX9_fewestDesks 22 = .ok (.bipush (-2), 2) := by decide +kernel
theorem dX9_fewestDesks_24 : decode cX9_fewestDesks 24 = .ok (.if_icmp .ne 6, 3) := by decide +kernel
theorem dX9_fewestDesks_27 : decode cX9_fewestDesks 27 = .ok (.bipush (-2), 2) := by decide +kernel
theorem dX9_fewestDesks_29 : decode cX9_fewestDesks 29 = .ok (.ireturn, 1) := by decide +kernel
theorem dX9_fewestDesks_3 : decode cX9_fewestDesks 3 = .ok (.bipush 20, 2) := by decide +kernel
theorem dX9_fewestDesks_30 : decode cX9_fewestDesks 30 = .ok (.iload_n 1, 1) := by decide +kernel
theorem dX9_fewestDesks_31 : decode cX9_fewestDesks 31 = .ok (.aload_n 0, 1) := by decide +kernel
theorem dX9_fewestDesks_32 : decode cX9_fewestDesks 32 = .ok (.getfield 25, 3) := by decide +kernel
theorem dX9_fewestDesks_35 : decode cX9_fewestDesks 35 = .ok (.getfield 29, 3) := by decide +kernel
theorem dX9_fewestDesks_38 : decode cX9_fewestDesks 38 = .ok (.getfield 35, 3) := by decide +kernel
theorem dX9_fewestDesks_41 : decode cX9_fewestDesks 41 = .ok (.getfield 48, 3) := by decide +kernel
theorem dX9_fewestDesks_44 : decode cX9_fewestDesks 44 = .ok (.if_icmp .lt 5, 3) := by decide +kernel
theorem dX9_fewestDesks_47 : decode cX9_fewestDesks 47 = .ok (.iconst (-1), 1) := by decide +kernel
theorem dX9_fewestDesks_48 : decode cX9_fewestDesks 48 = .ok (.ireturn, 1) := by decide +kernel
theorem dX9_fewestDesks_49 : decode cX9_fewestDesks 49 = .ok (.iinc 1 1, 3) := by decide +kernel
theorem dX9_fewestDesks_5 : decode cX9_fewestDesks 5 = .ok (.if_icmp .gt 50, 3) := by decide +kernel
theorem dX9_fewestDesks_52 : decode cX9_fewestDesks 52 = .ok (.goto (-50), 3) := by decide +kernel
theorem dX9_fewestDesks_55 : decode cX9_fewestDesks 55 = .ok (.iconst (-1), 1) := by decide +kernel
theorem dX9_fewestDesks_56 : decode cX9_fewestDesks 56 = .ok (.ireturn, 1) := by decide +kernel
theorem dX9_fewestDesks_8 : decode cX9_fewestDesks 8 = .ok (.aload_n 0, 1) := by decide +kernel
theorem dX9_fewestDesks_9 : decode cX9_fewestDesks 9 = .ok (.iload_n 1, 1) := by decide +kernel
theorem dX9_gainOfTrade_0 : decode cX9_gainOfTrade 0 = .ok (.aload_n 0, 1) := by decide +kernel
theorem dX9_gainOfTrade_1 : decode cX9_gainOfTrade 1 = .ok (.getfield 25, 3) := by decide +kernel
theorem dX9_gainOfTrade_10 : decode cX9_gainOfTrade 10 = .ok (.iload_n 2, 1) := by decide +kernel
theorem dX9_gainOfTrade_11 : decode cX9_gainOfTrade 11 = .ok (.invokevirtual 104, 3) := by decide +kernel
theorem dX9_gainOfTrade_14 : decode cX9_gainOfTrade 14 = .ok (.aload_n 0, 1) := by decide +kernel
theorem dX9_gainOfTrade_15 : decode cX9_gainOfTrade 15 = .ok (.getfield 25, 3) := by decide +kernel
theorem dX9_gainOfTrade_18 : decode cX9_gainOfTrade 18 = .ok (.invokevirtual 99, 3) := by decide +kernel
theorem dX9_gainOfTrade_21 : decode cX9_gainOfTrade 21 = .ok (.ifCond .eq 15, 3) := by decide +kernel
theorem dX9_gainOfTrade_24 : decode cX9_gainOfTrade 24 = .ok (.aload_n 0, 1) := by decide +kernel
theorem dX9_gainOfTrade_25 : decode cX9_gainOfTrade 25 = .ok (.getfield 25, 3) := by decide +kernel
theorem dX9_gainOfTrade_28 : decode cX9_gainOfTrade 28 = .ok (.invokevirtual 95, 3) := by decide +kernel
theorem dX9_gainOfTrade_31 : decode cX9_gainOfTrade 31 = .ok (.iload_n 3, 1) := by decide +kernel
theorem dX9_gainOfTrade_32 : decode cX9_gainOfTrade 32 = .ok (.isub, 1) := by decide +kernel
theorem dX9_gainOfTrade_33 : decode cX9_gainOfTrade 33 = .ok (.goto 5, 3) := by decide +kernel
theorem dX9_gainOfTrade_36 : decode cX9_gainOfTrade 36 = .ok (.ldc 103, 2) := by decide +kernel
theorem dX9_gainOfTrade_38 : decode cX9_gainOfTrade 38 = .ok (.istore 4, 2) := by decide +kernel
theorem dX9_gainOfTrade_4 : decode cX9_gainOfTrade 4 = .ok (.invokevirtual 95, 3) := by decide +kernel
theorem dX9_gainOfTrade_40 : decode cX9_gainOfTrade 40 = .ok (.aload_n 0, 1) := by decide +kernel
theorem dX9_gainOfTrade_41 : decode cX9_gainOfTrade 41 = .ok (.iload_n 1, 1) := by decide +kernel
theorem dX9_gainOfTrade_42 : decode cX9_gainOfTrade 42 = .ok (.iload_n 2, 1) := by decide +kernel
theorem dX9_gainOfTrade_43 : decode cX9_gainOfTrade 43 = .ok (.invokevirtual 104, 3) := by decide +kernel
theorem dX9_gainOfTrade_46 : decode cX9_gainOfTrade 46 = .ok (.iload 4, 2) := by decide +kernel
theorem dX9_gainOfTrade_48 : decode cX9_gainOfTrade 48 = .ok (.ireturn, 1) := by decide +kernel
theorem dX9_gainOfTrade_7 : decode cX9_gainOfTrade 7 = .ok (.istore_n 3, 1) := by decide +kernel
theorem dX9_gainOfTrade_8 : decode cX9_gainOfTrade 8 = .ok (.aload_n 0, 1) := by decide +kernel
theorem dX9_gainOfTrade_9 : decode cX9_gainOfTrade 9 = .ok (.iload_n 1, 1) := by decide +kernel
theorem dX9_improve_0 : decode cX9_improve 0 = .ok (.aload_n 0, 1) := by decide +kernel
theorem dX9_improve_1 : decode cX9_improve 1 = .ok (.getfield 25, 3) := by decide +kernel
theorem dX9_improve_10 : decode cX9_improve 10 = .ok (.astore_n 2, 1) := by decide +kernel
theorem dX9_improve_100 : decode cX9_improve 100 = .ok (.iadd, 1) := by decide +kernel
theorem dX9_improve_101 : decode cX9_improve 101 = .ok (.iaload, 1) := by decide +kernel
theorem dX9_improve_102 : decode cX9_improve 102 = .ok (.istore 10, 2) := by decide +kernel
theorem dX9_improve_104 : decode cX9_improve 104 = .ok (.iinc 7 1, 3) := by decide +kernel
theorem dX9_improve_107 : decode cX9_improve 107 = .ok (.iload 10, 2) := by decide +kernel
theorem dX9_improve_109 : decode cX9_improve 109 = .ok (.iload 9, 2) := by decide +kernel
theorem dX9_improve_11 : decode cX9_improve 11 = .ok (.aload_n 0, 1) := by decide +kernel
theorem dX9_improve_111 : decode cX9_improve 111 = .ok (.if_icmp .ne 6, 3) := by decide +kernel
theorem dX9_improve_114 : decode cX9_improve 114 = .ok (.goto 75, 3) := by decide +kernel
theorem dX9_improve_117 : decode cX9_improve 117 = .ok (.iinc 5 1, 3) := by decide +kernel
theorem dX9_improve_12 : decode cX9_improve 12 = .ok (.getfield 25, 3) := by decide +kernel
theorem dX9_improve_120 : decode cX9_improve 120 = .ok (.aload_n 0, 1) := by decide +kernel
theorem dX9_improve_121 : decode cX9_improve 121 = .ok (.getfield 25, 3) := by decide +kernel
theorem dX9_improve_124 : decode cX9_improve 124 = .ok (.getfield 84, 3) := by decide +kernel
theorem dX9_improve_127 : decode cX9_improve 127 = .ok (.iload 6, 2) := by decide +kernel
theorem dX9_improve_129 : decode cX9_improve 129 = .ok (.iload 10, 2) := by decide +kernel
theorem dX9_improve_131 : decode cX9_improve 131 = .ok (.iastore, 1) := by decide +kernel
theorem dX9_improve_132 : decode cX9_improve 132 = .ok (.aload_n 0, 1) := by decide +kernel
theorem dX9_improve_133 : decode cX9_improve 133 = .ok (.getfield 25, 3) := by decide +kernel
theorem dX9_improve_136 : decode cX9_improve 136 = .ok (.invokevirtual 99, 3) := by decide +kernel
theorem dX9_improve_139 : decode cX9_improve 139 = .ok (.ifCond .eq 13, 3) := by decide +kernel
theorem dX9_improve_142 : decode cX9_improve 142 = .ok (.aload_n 0, 1) := by decide +kernel
theorem dX9_improve_143 : decode cX9_improve 143 = .ok (.getfield 25, 3) := by decide +kernel
theorem dX9_improve_146 : decode cX9_improve 146 = .ok (.invokevirtual 95, 3) := by decide +kernel
theorem dX9_improve_149 : decode cX9_improve 149 = .ok (.goto 5, 3) := by decide +kernel
theorem dX9_improve_15 : decode cX9_improve 15 = .ok (.invokevirtual 95, 3) := by decide +kernel
theorem dX9_improve_152 : decode cX9_improve 152 = .ok (.ldc 103, 2) := by decide +kernel
theorem dX9_improve_154 : decode cX9_improve 154 = .ok (.istore 11, 2) := by decide +kernel
theorem dX9_improve_156 : decode cX9_improve 156 = .ok (.iload 11, 2) := by decide +kernel
theorem dX9_improve_158 : decode cX9_improve 158 = .ok (.iload_n 3, 1) := by decide +kernel
theorem dX9_improve_159 : decode cX9_improve 159 = .ok (.if_icmp .le 18, 3) := by decide +kernel
theorem dX9_improve_162 : decode cX9_improve 162 = .ok (.iload 11, 2) := by decide +kernel
theorem dX9_improve_164 : decode cX9_improve 164 = .ok (.istore_n 3, 1) := by decide +kernel
theorem dX9_improve_165 : decode cX9_improve 165 = .ok (.iinc 4 1, 3) := by decide +kernel
theorem dX9_improve_168 : decode cX9_improve 168 = .ok (.iconst 0, 1) := by decide +kernel
theorem dX9_improve_169 : decode cX9_improve 169 = .ok (.istore 6, 2) := by decide +kernel
theorem dX9_improve_171 : decode cX9_improve 171 = .ok (.iconst 0, 1) := by decide +kernel
theorem dX9_improve_172 : decode cX9_improve 172 = .ok (.istore 7, 2) := by decide +kernel
theorem dX9_improve_174 : decode cX9_improve 174 = .ok (.goto 15, 3) := by decide +kernel
theorem dX9_improve_177 : decode cX9_improve 177 = .ok (.aload_n 0, 1) := by decide +kernel
theorem dX9_improve_178 : decode cX9_improve 178 = .ok (.getfield 25, 3) := by decide +kernel
theorem dX9_improve_18 : decode cX9_improve 18 = .ok (.istore_n 3, 1) := by decide +kernel
theorem dX9_improve_181 : decode cX9_improve 181 = .ok (.getfield 84, 3) := by decide +kernel
theorem dX9_improve_184 : decode cX9_improve 184 = .ok (.iload 6, 2) := by decide +kernel
theorem dX9_improve_186 : decode cX9_improve 186 = .ok (.iload 9, 2) := by decide +kernel
theorem dX9_improve_188 : decode cX9_improve 188 = .ok (.iastore, 1) := by decide +kernel
theorem dX9_improve_189 : decode cX9_improve 189 = .ok (.iinc 8 1, 3) := by decide +kernel
theorem dX9_improve_19 : decode cX9_improve 19 = .ok (.iconst 0, 1) := by decide +kernel
theorem dX9_improve_192 : decode cX9_improve 192 = .ok (.goto (-158), 3) := by decide +kernel
theorem dX9_improve_195 : decode cX9_improve 195 = .ok (.iload 4, 2) := by decide +kernel
theorem dX9_improve_197 : decode cX9_improve 197 = .ok (.ireturn, 1) := by decide +kernel
theorem dX9_improve_20 : decode cX9_improve 20 = .ok (.istore 4, 2) := by decide +kernel
theorem dX9_improve_22 : decode cX9_improve 22 = .ok (.iconst 0, 1) := by decide +kernel
theorem dX9_improve_23 : decode cX9_improve 23 = .ok (.istore 5, 2) := by decide +kernel
theorem dX9_improve_25 : decode cX9_improve 25 = .ok (.iconst 0, 1) := by decide +kernel
theorem dX9_improve_26 : decode cX9_improve 26 = .ok (.istore 6, 2) := by decide +kernel
theorem dX9_improve_28 : decode cX9_improve 28 = .ok (.iconst 0, 1) := by decide +kernel
theorem dX9_improve_29 : decode cX9_improve 29 = .ok (.istore 7, 2) := by decide +kernel
theorem dX9_improve_31 : decode cX9_improve 31 = .ok (.iconst 0, 1) := by decide +kernel
theorem dX9_improve_32 : decode cX9_improve 32 = .ok (.istore 8, 2) := by decide +kernel
theorem dX9_improve_34 : decode cX9_improve 34 = .ok (.iload 8, 2) := by decide +kernel
theorem dX9_improve_36 : decode cX9_improve 36 = .ok (.ldc 47, 2) := by decide +kernel
theorem dX9_improve_38 : decode cX9_improve 38 = .ok (.if_icmp .ge 157, 3) := by decide +kernel
theorem dX9_improve_4 : decode cX9_improve 4 = .ok (.getfield 29, 3) := by decide +kernel
theorem dX9_improve_41 : decode cX9_improve 41 = .ok (.iload 6, 2) := by decide +kernel
theorem dX9_improve_43 : decode cX9_improve 43 = .ok (.aload_n 2, 1) := by decide +kernel
theorem dX9_improve_44 : decode cX9_improve 44 = .ok (.getfield 48, 3) := by decide +kernel
theorem dX9_improve_47 : decode cX9_improve 47 = .ok (.if_icmp .ge 148, 3) := by decide +kernel
theorem dX9_improve_50 : decode cX9_improve 50 = .ok (.iload 5, 2) := by decide +kernel
theorem dX9_improve_52 : decode cX9_improve 52 = .ok (.iload_n 1, 1) := by decide +kernel
theorem dX9_improve_53 : decode cX9_improve 53 = .ok (.if_icmp .ge 142, 3) := by decide +kernel
theorem dX9_improve_56 : decode cX9_improve 56 = .ok (.iload 7, 2) := by decide +kernel
theorem dX9_improve_58 : decode cX9_improve 58 = .ok (.aload_n 2, 1) := by decide +kernel
theorem dX9_improve_59 : decode cX9_improve 59 = .ok (.getfield 53, 3) := by decide +kernel
theorem dX9_improve_62 : decode cX9_improve 62 = .ok (.iload 6, 2) := by decide +kernel
theorem dX9_improve_64 : decode cX9_improve 64 = .ok (.iaload, 1) := by decide +kernel
theorem dX9_improve_65 : decode cX9_improve 65 = .ok (.if_icmp .lt 12, 3) := by decide +kernel
theorem dX9_improve_68 : decode cX9_improve 68 = .ok (.iinc 6 1, 3) := by decide +kernel
theorem dX9_improve_7 : decode cX9_improve 7 = .ok (.getfield 35, 3) := by decide +kernel
theorem dX9_improve_71 : decode cX9_improve 71 = .ok (.iconst 0, 1) := by decide +kernel
theorem dX9_improve_72 : decode cX9_improve 72 = .ok (.istore 7, 2) := by decide +kernel
theorem dX9_improve_74 : decode cX9_improve 74 = .ok (.goto 115, 3) := by decide +kernel
theorem dX9_improve_77 : decode cX9_improve 77 = .ok (.aload_n 0, 1) := by decide +kernel
theorem dX9_improve_78 : decode cX9_improve 78 = .ok (.getfield 25, 3) := by decide +kernel
theorem dX9_improve_81 : decode cX9_improve 81 = .ok (.getfield 84, 3) := by decide +kernel
theorem dX9_improve_84 : decode cX9_improve 84 = .ok (.iload 6, 2) := by decide +kernel
theorem dX9_improve_86 : decode cX9_improve 86 = .ok (.iaload, 1) := by decide +kernel
theorem dX9_improve_87 : decode cX9_improve 87 = .ok (.istore 9, 2) := by decide +kernel
theorem dX9_improve_89 : decode cX9_improve 89 = .ok (.aload_n 2, 1) := by decide +kernel
theorem dX9_improve_90 : decode cX9_improve 90 = .ok (.getfield 60, 3) := by decide +kernel
theorem dX9_improve_93 : decode cX9_improve 93 = .ok (.iload 6, 2) := by decide +kernel
theorem dX9_improve_95 : decode cX9_improve 95 = .ok (.bipush 10, 2) := by decide +kernel
theorem dX9_improve_97 : decode cX9_improve 97 = .ok (.imul, 1) := by decide +kernel
theorem dX9_improve_98 : decode cX9_improve 98 = .ok (.iload 7, 2) := by decide +kernel
theorem dX9_load_0 : decode cX9_load 0 = .ok (.aload_n 0, 1) := by decide +kernel
theorem dX9_load_1 : decode cX9_load 1 = .ok (.getfield 25, 3) := by decide +kernel
theorem dX9_load_10 : decode cX9_load 10 = .ok (.getfield 67, 3) := by decide +kernel
theorem dX9_load_13 : decode cX9_load 13 = .ok (.iload_n 1, 1) := by decide +kernel
theorem dX9_load_14 : decode cX9_load 14 = .ok (.iaload, 1) := by decide +kernel
theorem dX9_load_15 : decode cX9_load 15 = .ok (.iconst (-1), 1) := by decide +kernel
theorem dX9_load_16 : decode cX9_load 16 = .ok (.if_icmp .ne 37, 3) := by decide +kernel
theorem dX9_load_19 : decode cX9_load 19 = .ok (.iconst 0, 1) := by decide +kernel
theorem dX9_load_20 : decode cX9_load 20 = .ok (.istore_n 3, 1) := by decide +kernel
theorem dX9_load_21 : decode cX9_load 21 = .ok (.iload_n 3, 1) := by decide +kernel
theorem dX9_load_22 : decode cX9_load 22 = .ok (.iconst 5, 1) := by decide +kernel
theorem dX9_load_23 : decode cX9_load 23 = .ok (.if_icmp .ge 30, 3) := by decide +kernel
theorem dX9_load_26 : decode cX9_load 26 = .ok (.aload_n 0, 1) := by decide +kernel
theorem dX9_load_27 : decode cX9_load 27 = .ok (.getfield 22, 3) := by decide +kernel
theorem dX9_load_30 : decode cX9_load 30 = .ok (.iload_n 3, 1) := by decide +kernel
theorem dX9_load_31 : decode cX9_load 31 = .ok (.dup2, 1) := by decide +kernel
theorem dX9_load_32 : decode cX9_load 32 = .ok (.iaload, 1) := by decide +kernel
theorem dX9_load_33 : decode cX9_load 33 = .ok (.iload_n 2, 1) := by decide +kernel
theorem dX9_load_34 : decode cX9_load 34 = .ok (.aload_n 0, 1) := by decide +kernel
theorem dX9_load_35 : decode cX9_load 35 = .ok (.getfield 15, 3) := by decide +kernel
theorem dX9_load_38 : decode cX9_load 38 = .ok (.iload_n 1, 1) := by decide +kernel
theorem dX9_load_39 : decode cX9_load 39 = .ok (.iaload, 1) := by decide +kernel
theorem dX9_load_4 : decode cX9_load 4 = .ok (.getfield 29, 3) := by decide +kernel
theorem dX9_load_40 : decode cX9_load 40 = .ok (.iload_n 3, 1) := by decide +kernel
theorem dX9_load_41 : decode cX9_load 41 = .ok (.ishr, 1) := by decide +kernel
theorem dX9_load_42 : decode cX9_load 42 = .ok (.iconst 1, 1) := by decide +kernel
theorem dX9_load_43 : decode cX9_load 43 = .ok (.iand, 1) := by decide +kernel
theorem dX9_load_44 : decode cX9_load 44 = .ok (.imul, 1) := by decide +kernel
theorem dX9_load_45 : decode cX9_load 45 = .ok (.iadd, 1) := by decide +kernel
theorem dX9_load_46 : decode cX9_load 46 = .ok (.iastore, 1) := by decide +kernel
theorem dX9_load_47 : decode cX9_load 47 = .ok (.iinc 3 1, 3) := by decide +kernel
theorem dX9_load_50 : decode cX9_load 50 = .ok (.goto (-29), 3) := by decide +kernel
theorem dX9_load_53 : decode cX9_load 53 = .ok (.return_, 1) := by decide +kernel
theorem dX9_load_7 : decode cX9_load 7 = .ok (.getfield 35, 3) := by decide +kernel
theorem dX9_otherSets_0 : decode cX9_otherSets 0 = .ok (.aload_n 0, 1) := by decide +kernel
theorem dX9_otherSets_1 : decode cX9_otherSets 1 = .ok (.getfield 25, 3) := by decide +kernel
theorem dX9_otherSets_10 : decode cX9_otherSets 10 = .ok (.astore_n 2, 1) := by decide +kernel
theorem dX9_otherSets_100 : decode cX9_otherSets 100 = .ok (.ireturn, 1) := by decide +kernel
theorem dX9_otherSets_11 : decode cX9_otherSets 11 = .ok (.aload_n 0, 1) := by decide +kernel
theorem dX9_otherSets_12 : decode cX9_otherSets 12 = .ok (.getfield 25, 3) := by decide +kernel
theorem dX9_otherSets_15 : decode cX9_otherSets 15 = .ok (.getfield 84, 3) := by decide +kernel
theorem dX9_otherSets_18 : decode cX9_otherSets 18 = .ok (.iload_n 1, 1) := by decide +kernel
theorem dX9_otherSets_19 : decode cX9_otherSets 19 = .ok (.iaload, 1) := by decide +kernel
theorem dX9_otherSets_20 : decode cX9_otherSets 20 = .ok (.istore_n 3, 1) := by decide +kernel
theorem dX9_otherSets_21 : decode cX9_otherSets 21 = .ok (.iconst 0, 1) := by decide +kernel
theorem dX9_otherSets_22 : decode cX9_otherSets 22 = .ok (.istore 4, 2) := by decide +kernel
theorem dX9_otherSets_24 : decode cX9_otherSets 24 = .ok (.iconst 0, 1) := by decide +kernel
theorem dX9_otherSets_25 : decode cX9_otherSets 25 = .ok (.istore 5, 2) := by decide +kernel
theorem dX9_otherSets_27 : decode cX9_otherSets 27 = .ok (.iload 5, 2) := by decide +kernel
theorem dX9_otherSets_29 : decode cX9_otherSets 29 = .ok (.aload_n 2, 1) := by decide +kernel
theorem dX9_otherSets_30 : decode cX9_otherSets 30 = .ok (.getfield 53, 3) := by decide +kernel
theorem dX9_otherSets_33 : decode cX9_otherSets 33 = .ok (.iload_n 1, 1) := by decide +kernel
theorem dX9_otherSets_34 : decode cX9_otherSets 34 = .ok (.iaload, 1) := by decide +kernel
theorem dX9_otherSets_35 : decode cX9_otherSets 35 = .ok (.if_icmp .ge 53, 3) := by decide +kernel
theorem dX9_otherSets_38 : decode cX9_otherSets 38 = .ok (.aload_n 2, 1) := by decide +kernel
theorem dX9_otherSets_39 : decode cX9_otherSets 39 = .ok (.getfield 60, 3) := by decide +kernel
theorem dX9_otherSets_4 : decode cX9_otherSets 4 = .ok (.getfield 29, 3) := by decide +kernel
theorem dX9_otherSets_42 : decode cX9_otherSets 42 = .ok (.iload_n 1, 1) := by decide +kernel
theorem dX9_otherSets_43 : decode cX9_otherSets 43 = .ok (.bipush 10, 2) := by decide +kernel
theorem dX9_otherSets_45 : decode cX9_otherSets 45 = .ok (.imul, 1) := by decide +kernel
theorem dX9_otherSets_46 : decode cX9_otherSets 46 = .ok (.iload 5, 2) := by decide +kernel
theorem dX9_otherSets_48 : decode cX9_otherSets 48 = .ok (.iadd, 1) := by decide +kernel
theorem dX9_otherSets_49 : decode cX9_otherSets 49 = .ok (.iaload, 1) := by decide +kernel
theorem dX9_otherSets_50 : decode cX9_otherSets 50 = .ok (.istore 6, 2) := by decide +kernel
theorem dX9_otherSets_52 : decode cX9_otherSets 52 = .ok (.aload_n 0, 1) := by decide +kernel
theorem dX9_otherSets_53 : decode cX9_otherSets 53 = .ok (.getfield 25, 3) := by decide +kernel
theorem dX9_otherSets_56 : decode cX9_otherSets 56 = .ok (.getfield 84, 3) := by decide +kernel
theorem dX9_otherSets_59 : decode cX9_otherSets 59 = .ok (.iload_n 1, 1) := by decide +kernel
theorem dX9_otherSets_60 : decode cX9_otherSets 60 = .ok (.iload 6, 2) := by decide +kernel
theorem dX9_otherSets_62 : decode cX9_otherSets 62 = .ok (.iastore, 1) := by decide +kernel
theorem dX9_otherSets_63 : decode cX9_otherSets 63 = .ok (.iload 6, 2) := by decide +kernel
theorem dX9_otherSets_65 : decode cX9_otherSets 65 = .ok (.iload_n 3, 1) := by decide +kernel
theorem dX9_otherSets_66 : decode cX9_otherSets 66 = .ok (.if_icmp .eq 16, 3) := by decide +kernel
theorem dX9_otherSets_69 : decode cX9_otherSets 69 = .ok (.aload_n 0, 1) := by decide +kernel
theorem dX9_otherSets_7 : decode cX9_otherSets 7 = .ok (.getfield 35, 3) := by decide +kernel
theorem dX9_otherSets_70 : decode cX9_otherSets 70 = .ok (.getfield 25, 3) := by decide +kernel
theorem dX9_otherSets_73 : decode cX9_otherSets 73 = .ok (.invokevirtual 99, 3) := by decide +kernel
theorem dX9_otherSets_76 : decode cX9_otherSets 76 = .ok (.ifCond .eq 6, 3) := by decide +kernel
theorem dX9_otherSets_79 : decode cX9_otherSets 79 = .ok (.iinc 4 1, 3) := by decide +kernel
theorem dX9_otherSets_82 : decode cX9_otherSets 82 = .ok (.iinc 5 1, 3) := by decide +kernel
theorem dX9_otherSets_85 : decode cX9_otherSets 85 = .ok (.goto (-58), 3) := by decide +kernel
theorem dX9_otherSets_88 : decode cX9_otherSets 88 = .ok (.aload_n 0, 1) := by decide +kernel
theorem dX9_otherSets_89 : decode cX9_otherSets 89 = .ok (.getfield 25, 3) := by decide +kernel
theorem dX9_otherSets_92 : decode cX9_otherSets 92 = .ok (.getfield 84, 3) := by decide +kernel
theorem dX9_otherSets_95 : decode cX9_otherSets 95 = .ok (.iload_n 1, 1) := by decide +kernel
theorem dX9_otherSets_96 : decode cX9_otherSets 96 = .ok (.iload_n 3, 1) := by decide +kernel
theorem dX9_otherSets_97 : decode cX9_otherSets 97 = .ok (.iastore, 1) := by decide +kernel
theorem dX9_otherSets_98 : decode cX9_otherSets 98 = .ok (.iload 4, 2) := by decide +kernel
theorem dX9_search_0 : decode cX9_search 0 = .ok (.aload_n 0, 1) := by decide +kernel
theorem dX9_search_1 : decode cX9_search 1 = .ok (.getfield 25, 3) := by decide +kernel
theorem dX9_search_10 : decode cX9_search 10 = .ok (.astore_n 2, 1) := by decide +kernel
theorem dX9_search_102 : decode cX9_search 102 = .ok (.iconst 1, 1) := by decide +kernel
theorem dX9_search_103 : decode cX9_search 103 = .ok (.iadd, 1) := by decide +kernel
theorem dX9_search_104 : decode cX9_search 104 = .ok (.putfield 9, 3) := by decide +kernel
theorem dX9_search_107 : decode cX9_search 107 = .ok (.aload_n 0, 1) := by decide +kernel
theorem dX9_search_108 : decode cX9_search 108 = .ok (.getfield 15, 3) := by decide +kernel
theorem dX9_search_11 : decode cX9_search 11 = .ok (.aload_n 0, 1) := by decide +kernel
theorem dX9_search_111 : decode cX9_search 111 = .ok (.iload_n 3, 1) := by decide +kernel
theorem dX9_search_112 : decode cX9_search 112 = .ok (.aload_n 2, 1) := by decide +kernel
theorem dX9_search_113 : decode cX9_search 113 = .ok (.getfield 60, 3) := by decide +kernel
theorem dX9_search_116 : decode cX9_search 116 = .ok (.iload_n 3, 1) := by decide +kernel
theorem dX9_search_117 : decode cX9_search 117 = .ok (.bipush 10, 2) := by decide +kernel
theorem dX9_search_119 : decode cX9_search 119 = .ok (.imul, 1) := by decide +kernel
theorem dX9_search_12 : decode cX9_search 12 = .ok (.iconst 0, 1) := by decide +kernel
theorem dX9_search_120 : decode cX9_search 120 = .ok (.aload_n 0, 1) := by decide +kernel
theorem dX9_search_121 : decode cX9_search 121 = .ok (.getfield 19, 3) := by decide +kernel
theorem dX9_search_124 : decode cX9_search 124 = .ok (.iload_n 3, 1) := by decide +kernel
theorem dX9_search_125 : decode cX9_search 125 = .ok (.iaload, 1) := by decide +kernel
theorem dX9_search_126 : decode cX9_search 126 = .ok (.iadd, 1) := by decide +kernel
theorem dX9_search_127 : decode cX9_search 127 = .ok (.iaload, 1) := by decide +kernel
theorem dX9_search_128 : decode cX9_search 128 = .ok (.iastore, 1) := by decide +kernel
theorem dX9_search_129 : decode cX9_search 129 = .ok (.aload_n 0, 1) := by decide +kernel
theorem dX9_search_13 : decode cX9_search 13 = .ok (.putfield 9, 3) := by decide +kernel
theorem dX9_search_130 : decode cX9_search 130 = .ok (.getfield 19, 3) := by decide +kernel
theorem dX9_search_133 : decode cX9_search 133 = .ok (.iload_n 3, 1) := by decide +kernel
theorem dX9_search_134 : decode cX9_search 134 = .ok (.dup2, 1) := by decide +kernel
theorem dX9_search_135 : decode cX9_search 135 = .ok (.iaload, 1) := by decide +kernel
theorem dX9_search_136 : decode cX9_search 136 = .ok (.iconst 1, 1) := by decide +kernel
theorem dX9_search_137 : decode cX9_search 137 = .ok (.iadd, 1) := by decide +kernel
theorem dX9_search_138 : decode cX9_search 138 = .ok (.iastore, 1) := by decide +kernel
theorem dX9_search_139 : decode cX9_search 139 = .ok (.aload_n 0, 1) := by decide +kernel
theorem dX9_search_140 : decode cX9_search 140 = .ok (.iload_n 3, 1) := by decide +kernel
theorem dX9_search_141 : decode cX9_search 141 = .ok (.iload_n 1, 1) := by decide +kernel
theorem dX9_search_142 : decode cX9_search 142 = .ok (.invokevirtual 63, 3) := by decide +kernel
theorem dX9_search_145 : decode cX9_search 145 = .ok (.ifCond .eq 27, 3) := by decide +kernel
theorem dX9_search_148 : decode cX9_search 148 = .ok (.aload_n 0, 1) := by decide +kernel
theorem dX9_search_149 : decode cX9_search 149 = .ok (.iload_n 3, 1) := by decide +kernel
theorem dX9_search_150 : decode cX9_search 150 = .ok (.iconst 1, 1) := by decide +kernel
theorem dX9_search_151 : decode cX9_search 151 = .ok (.invokevirtual 56, 3) := by decide +kernel
theorem dX9_search_154 : decode cX9_search 154 = .ok (.iinc 3 1, 3) := by decide +kernel
theorem dX9_search_157 : decode cX9_search 157 = .ok (.iload_n 3, 1) := by decide +kernel
theorem dX9_search_158 : decode cX9_search 158 = .ok (.aload_n 2, 1) := by decide +kernel
theorem dX9_search_159 : decode cX9_search 159 = .ok (.getfield 48, 3) := by decide +kernel
theorem dX9_search_16 : decode cX9_search 16 = .ok (.aload_n 0, 1) := by decide +kernel
theorem dX9_search_162 : decode cX9_search 162 = .ok (.if_icmp .ge 10, 3) := by decide +kernel
theorem dX9_search_165 : decode cX9_search 165 = .ok (.aload_n 0, 1) := by decide +kernel
theorem dX9_search_166 : decode cX9_search 166 = .ok (.getfield 19, 3) := by decide +kernel
theorem dX9_search_169 : decode cX9_search 169 = .ok (.iload_n 3, 1) := by decide +kernel
theorem dX9_search_17 : decode cX9_search 17 = .ok (.getfield 22, 3) := by decide +kernel
theorem dX9_search_170 : decode cX9_search 170 = .ok (.iconst 0, 1) := by decide +kernel
theorem dX9_search_171 : decode cX9_search 171 = .ok (.iastore, 1) := by decide +kernel
theorem dX9_search_172 : decode cX9_search 172 = .ok (.iinc 4 1, 3) := by decide +kernel
theorem dX9_search_175 : decode cX9_search 175 = .ok (.goto (-139), 3) := by decide +kernel
theorem dX9_search_178 : decode cX9_search 178 = .ok (.iconst 1, 1) := by decide +kernel
theorem dX9_search_179 : decode cX9_search 179 = .ok (.ireturn, 1) := by decide +kernel
theorem dX9_search_20 : decode cX9_search 20 = .ok (.iconst 0, 1) := by decide +kernel
theorem dX9_search_21 : decode cX9_search 21 = .ok (.invokestatic 41, 3) := by decide +kernel
theorem dX9_search_24 : decode cX9_search 24 = .ok (.aload_n 0, 1) := by decide +kernel
theorem dX9_search_25 : decode cX9_search 25 = .ok (.getfield 19, 3) := by decide +kernel
theorem dX9_search_28 : decode cX9_search 28 = .ok (.iconst 0, 1) := by decide +kernel
theorem dX9_search_29 : decode cX9_search 29 = .ok (.iconst 0, 1) := by decide +kernel
theorem dX9_search_30 : decode cX9_search 30 = .ok (.iastore, 1) := by decide +kernel
theorem dX9_search_31 : decode cX9_search 31 = .ok (.iconst 0, 1) := by decide +kernel
theorem dX9_search_32 : decode cX9_search 32 = .ok (.istore_n 3, 1) := by decide +kernel
theorem dX9_search_33 : decode cX9_search 33 = .ok (.iconst 0, 1) := by decide +kernel
theorem dX9_search_34 : decode cX9_search 34 = .ok (.istore 4, 2) := by decide +kernel
theorem dX9_search_36 : decode cX9_search 36 = .ok (.iload 4, 2) := by decide +kernel
theorem dX9_search_38 : decode cX9_search 38 = .ok (.ldc 47, 2) := by decide +kernel
theorem dX9_search_4 : decode cX9_search 4 = .ok (.getfield 29, 3) := by decide +kernel
theorem dX9_search_40 : decode cX9_search 40 = .ok (.if_icmp .ge 138, 3) := by decide +kernel
theorem dX9_search_43 : decode cX9_search 43 = .ok (.iload_n 3, 1) := by decide +kernel
theorem dX9_search_44 : decode cX9_search 44 = .ok (.aload_n 2, 1) := by decide +kernel
theorem dX9_search_45 : decode cX9_search 45 = .ok (.getfield 48, 3) := by decide +kernel
theorem dX9_search_48 : decode cX9_search 48 = .ok (.if_icmp .ge 130, 3) := by decide +kernel
theorem dX9_search_51 : decode cX9_search 51 = .ok (.aload_n 0, 1) := by decide +kernel
theorem dX9_search_52 : decode cX9_search 52 = .ok (.getfield 19, 3) := by decide +kernel
theorem dX9_search_55 : decode cX9_search 55 = .ok (.iload_n 3, 1) := by decide +kernel
theorem dX9_search_56 : decode cX9_search 56 = .ok (.iaload, 1) := by decide +kernel
theorem dX9_search_57 : decode cX9_search 57 = .ok (.aload_n 2, 1) := by decide +kernel
theorem dX9_search_58 : decode cX9_search 58 = .ok (.getfield 53, 3) := by decide +kernel
theorem dX9_search_61 : decode cX9_search 61 = .ok (.iload_n 3, 1) := by decide +kernel
theorem dX9_search_62 : decode cX9_search 62 = .ok (.iaload, 1) := by decide +kernel
theorem dX9_search_63 : decode cX9_search 63 = .ok (.if_icmp .lt 21, 3) := by decide +kernel
theorem dX9_search_66 : decode cX9_search 66 = .ok (.iload_n 3, 1) := by decide +kernel
theorem dX9_search_67 : decode cX9_search 67 = .ok (.ifCond .ne 5, 3) := by decide +kernel
theorem dX9_search_7 : decode cX9_search 7 = .ok (.getfield 35, 3) := by decide +kernel
theorem dX9_search_70 : decode cX9_search 70 = .ok (.iconst 0, 1) := by decide +kernel
theorem dX9_search_71 : decode cX9_search 71 = .ok (.ireturn, 1) := by decide +kernel
theorem dX9_search_72 : decode cX9_search 72 = .ok (.iinc 3 (-1), 3) := by decide +kernel
theorem dX9_search_75 : decode cX9_search 75 = .ok (.aload_n 0, 1) := by decide +kernel
theorem dX9_search_76 : decode cX9_search 76 = .ok (.iload_n 3, 1) := by decide +kernel
theorem dX9_search_77 : decode cX9_search 77 = .ok (.iconst (-1), 1) := by decide +kernel
theorem dX9_search_78 : decode cX9_search 78 = .ok (.invokevirtual 56, 3) := by decide +kernel
theorem dX9_search_81 : decode cX9_search 81 = .ok (.goto 91, 3) := by decide +kernel
theorem dX9_search_84 : decode cX9_search 84 = .ok (.aload_n 0, 1) := by decide +kernel
theorem dX9_search_85 : decode cX9_search 85 = .ok (.getfield 9, 3) := by decide +kernel
theorem dX9_search_88 : decode cX9_search 88 = .ok (.sipush 20000, 3) := by decide +kernel
theorem dX9_search_91 : decode cX9_search 91 = .ok (.if_icmp .lt 6, 3) := by decide +kernel
theorem dX9_search_94 : decode cX9_search 94 = .ok (.bipush (-2), 2) := by decide +kernel
theorem dX9_search_96 : decode cX9_search 96 = .ok (.ireturn, 1) := by decide +kernel
theorem dX9_search_97 : decode cX9_search 97 = .ok (.aload_n 0, 1) := by decide +kernel
theorem dX9_search_98 : decode cX9_search 98 = .ok (.dup, 1) := by decide +kernel
theorem dX9_search_99 : decode cX9_search 99 = .ok (.getfield 9, 3) := by decide +kernel
theorem dX9_takeFound_0 : decode cX9_takeFound 0 = .ok (.aload_n 0, 1) := by decide +kernel
theorem dX9_takeFound_1 : decode cX9_takeFound 1 = .ok (.getfield 15, 3) := by decide +kernel
theorem dX9_takeFound_12 : decode cX9_takeFound 12 = .ok (.iconst 0, 1) := by decide +kernel
theorem dX9_takeFound_13 : decode cX9_takeFound 13 = .ok (.aload_n 0, 1) := by decide +kernel
theorem dX9_takeFound_14 : decode cX9_takeFound 14 = .ok (.getfield 25, 3) := by decide +kernel
theorem dX9_takeFound_17 : decode cX9_takeFound 17 = .ok (.getfield 29, 3) := by decide +kernel
theorem dX9_takeFound_20 : decode cX9_takeFound 20 = .ok (.getfield 35, 3) := by decide +kernel
theorem dX9_takeFound_23 : decode cX9_takeFound 23 = .ok (.getfield 48, 3) := by decide +kernel
theorem dX9_takeFound_26 : decode cX9_takeFound 26 = .ok (.invokestatic 85, 3) := by decide +kernel
theorem dX9_takeFound_29 : decode cX9_takeFound 29 = .ok (.return_, 1) := by decide +kernel
theorem dX9_takeFound_4 : decode cX9_takeFound 4 = .ok (.iconst 0, 1) := by decide +kernel
theorem dX9_takeFound_5 : decode cX9_takeFound 5 = .ok (.aload_n 0, 1) := by decide +kernel
theorem dX9_takeFound_6 : decode cX9_takeFound 6 = .ok (.getfield 25, 3) := by decide +kernel
theorem dX9_takeFound_9 : decode cX9_takeFound 9 = .ok (.getfield 84, 3) := by decide +kernel
